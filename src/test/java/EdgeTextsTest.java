/** The edges of TOKENS, LANDS, DIARIES, SENTENCES and FAULTS: each sentence of 'Terms' that names one. */
public final class EdgeTextsTest {
    private static final int NONE = ReadBound.NONE;
    private static final String TWO = "place a;place b;";
    private static final String ALL = TWO + "deed d;law l 1 d;man m a 1;man n b 2;";
    private static final String TEN = "place a;place b;place c;place d;place e;place f;place g;place h;place i;place j;";
    private static final String FIVE = "deed a;deed b;deed c;deed d;deed e;";

    public static void main(String[] args) {
        blanks();
        words();
        numbers();
        signs();
        runs();
        landBytes();
        landLines();
        placesAndDeeds();
        roads();
        laws();
        repeals();
        men();
        rounds();
        clerks();
        posts();
        names();
        mostOfASort();
        numbered();
        diaryBytes();
        diaryLines();
        diaryForms();
        diaryDays();
        sentenceBytes();
        conditions();
        blind();
        free();
        boundNow();
        comparisons();
        ones();
        within();
        firstFault();
        leastFault();
        cantCome();
        theEnd();
        mostBytes();
        readWhole();
        badNumbers();
        badNames();
        twoAgain();
        onceAgain();
        oneMore();
        lineOfTooMany();
        Check.end();
    }

    private static void edge(String words) {
        Check.edge("Terms", words);
    }

    private static void land(String text, int answer, int kind) {
        ReadBound x = new ReadBound();
        Check.due("land of '" + text + "'", Check.landOf(x, text), answer);
        Check.due("fault of '" + text + "'", x.fault(), kind);
    }

    private static void landFault(String ahead, String text, int at, int kind) {
        land(ahead + text, -1 - ahead.length() - at, kind);
    }

    private static void diary(String text, int answer, int kind) {
        ReadBound x = Check.land(Check.LAND);
        Check.due("diary of '" + text + "'", Check.diaryOf(x, text, 0), answer);
        Check.due("fault of '" + text + "'", x.fault(), kind);
    }

    private static void diaryFault(String ahead, String text, int at, int kind) {
        diary(ahead + text, -2 - ahead.length() - at, kind);
    }

    private static void sentence(String text, int answer, int kind) {
        ReadBound x = Check.land(Check.LAND);
        Check.due("sentence '" + text + "'", Check.sentenceOf(x, text), answer);
        Check.due("fault of '" + text + "'", x.fault(), kind);
    }

    private static void sentenceFault(String ahead, String text, int at, int kind) {
        sentence(ahead + text, -1 - ahead.length() - at, kind);
    }

    /** MEN of whom a text may be said, as bits. */
    private static int saidOf(ReadBound x, String text) {
        Check.due("sentence '" + text + "' has a FAULT", Check.sentenceOf(x, text) < 0, false);
        int men = 0;
        for (int k = 0; k < x.said(NONE); k++) {
            men |= 1 << x.said(k);
        }
        return men;
    }

    // ---- TOKENS

    private static void blanks() {
        edge("with blanks (32, 10) between them or not");
        land("place a;place b;road a b;", 3, 0);
        land(" \n\n place\n\na \n;\nplace  b;\n road a\nb ; \n", 3, 0);
        sentence("not(sight<5)and(free)", 5, 0);
        sentence("not ( sight < 5 )\nand\n( free )", 5, 0);
        for (int blank : new int[] {0, 1, 9, 11, 12, 13, 14, 31, 33, 127, 128, 138, 160, 255}) {
            land("place a;" + (char) blank, -9, 1);
            land("place" + (char) blank + "a;", -6, 1);
            diary("day" + (char) blank + "1;", -5, 1);
            sentence((char) blank + "free", -1, 1);
        }
    }

    private static void words() {
        edge("WORDS: small letters, 1 to 7");
        land("place z;place abcdefg;place azazaza;", 3, 0);
        land("place abcdefgh;", -7, 1);
        land("place aaaaaaaaaaaaaaaaaaaaaaaaaaaaaaaaaaaaaaaa;", -7, 1);
        for (int near : new int[] {'a' - 1, 'z' + 1, 'A', 'Z', 'a' + 128, 'z' + 128}) {
            land("place " + (char) near + ";", -7, 1);
            land("place a" + (char) near + ";", -8, 1);
        }
        // a text of seven letters is told from another that begins as it does
        land("place abcdefg;place abcdef;place abcdefh;", 3, 0);
    }

    private static void numbers() {
        edge("NUMBERS: 1 to 2 digits");
        land("deed d;law l 1 d;law k 01 d;law j 30 d;", 4, 0);
        landFault("deed d;law l ", "001 d;", 0, 1);
        landFault("deed d;law l ", "100 d;", 0, 1);
        landFault("deed d;law l ", "0000000000000000000000000000000000001 d;", 0, 1);
        landFault("deed d;law l ", "4294967297 d;", 0, 1);
        landFault("deed d;law l ", ":1 d;", 0, 1);
        landFault("deed d;law l ", "/1 d;", 0, 1);
        landFault("deed d;law l 1", ": d;", 0, 1);
        landFault("deed d;law l 1", "/ d;", 0, 1);
        diary("day 09;", NONE, 0);
        diary("day 009;", -6, 1);
        sentence("did<0", 1, 0);
        sentence("did<99", 1, 0);
        sentence("did<099", -5, 1);
    }

    private static void signs() {
        edge("; < = > ( ) .");
        sentence("(number<1 or number=1 or number>1)", 4, 0);
        diary("joe wears;joe bares;", NONE, 0);
        for (String other : new String[] {".", ",", ":", "-", "+", "*", "[", "]", "{", "}", "!", "\"", "'", "#", "@", "_", "?"}) {
            land("place a;" + other, -9, 1);
            sentence("free" + other, -5, 1);
            sentence("sight" + other + "1", -6, 1);
        }
    }

    private static void runs() {
        edge("A WORD, NUMBER goes on as long as small letters and digits do; what is not as told is no TOKEN.");
        land("place a1;", -7, 1);
        land("place 1a;", -7, 1);
        land("place1 a;", -1, 1);
        land("place abcdefg1;", -7, 1);
        land("placea;", -1, 1);
        landFault("deed d;law l ", "1d;", 0, 1);
        landFault(TWO + "man m a ", "1a;", 0, 1);
        landFault(TWO + "man m a ", "12a;", 0, 1);
        diary("day1;", -2, 1);
        diary("day 1a;", -6, 1);
        sentence("sight<1or free", -7, 1);
        sentence("notfree", -1, 1);
        sentence("in d1", -4, 1);
    }

    // ---- LAND

    private static void landBytes() {
        edge("A LAND is a text of at most 900 bytes");
        land(Check.times(" ", 892) + "place a;", 1, 0);
        land("place a;" + Check.times("\n", 892), 1, 0);
        land(Check.times(" ", 900), 0, 0);
        land(Check.times(" ", 901), -901, 1);
        land(Check.times(" ", 893) + "place a;", -901, 1);
        land("place a;" + Check.times("\n", 893), -901, 1);
        land("place a;" + Check.times("\n", 932), -901, 1);
    }

    private static void landLines() {
        edge("{ LINE ; }. LINE:");
        land("", 0, 0);
        land("place a;", 1, 0);
        land(";", -1, 1);
        land("place a", -8, 1);
        land("place a;;", -9, 1);
        land("place a;place b", -16, 1);
        land("place a place b;", -9, 1);
    }

    private static void placesAndDeeds() {
        edge("'place' NAME |");
        land("place;", -6, 1);
        land("place 1;", -7, 1);
        land("place a b;", -9, 1);
        edge("| 'deed' NAME |");
        land("deed;", -5, 1);
        land("deed 1;", -6, 1);
        land("deed a b;", -8, 1);
    }

    private static void roads() {
        edge("'road' PLACE PLACE (unlike; each two once, in whatever order)");
        land(TWO + "place c;road a b;road c a;road b c;", 6, 0);
        landFault(TWO, "road a a;", 7, 3);
        landFault(TWO + "road a b;", "road a b;", 7, 3);
        landFault(TWO + "road a b;", "road b a;", 7, 3);
        landFault(TWO, "road a;", 6, 1);
        landFault(TWO, "road a b a;", 9, 1);
        ReadBound x = Check.land(TWO + "place c;road c a;");
        Check.due("roads of a", x.place(0, 0), 4);
        Check.due("roads of b", x.place(1, 0), 0);
        Check.due("roads of c", x.place(2, 0), 1);
    }

    private static void laws() {
        edge("'law' NAME LENGTH DEED { DEED } (1 to 30 words; each DEED once in it: it forbids them)");
        land("deed d;law l 1 d;law k 30 d;", 3, 0);
        landFault("deed d;law l ", "0 d;", 0, 2);
        landFault("deed d;law l ", "31 d;", 0, 2);
        landFault("deed d;law l 1", ";", 0, 1);
        landFault("deed d;law l 1 d ", "d;", 0, 3);
        landFault("deed d;deed e;law l 1 d e ", "d;", 0, 3);
        ReadBound x = Check.land(FIVE + "law l 1 e b;law k 1 b;law j 1 e d c b a;");
        Check.due("forbids b, e", x.law(0, 1), 18);
        Check.due("forbids b", x.law(1, 1), 2);
        Check.due("forbids all", x.law(2, 1), 31);
    }

    private static void repeals() {
        edge("'repeal' NAME LENGTH LAW (of a law told ahead, no repeal)");
        land("deed d;law l 1 d;repeal q 1 l;repeal r 30 l;", 4, 0);
        landFault("deed d;law l 1 d;repeal r ", "0 l;", 0, 2);
        landFault("deed d;law l 1 d;repeal r ", "31 l;", 0, 2);
        landFault("deed d;repeal r 1 ", "l;law l 1 d;", 0, 3);
        landFault("deed d;law l 1 d;repeal r 1 ", "r;", 0, 3);
        landFault("deed d;law l 1 d;repeal q 1 l;repeal r 1 ", "q;", 0, 3);
        landFault("deed d;law l 1 d;repeal r 1", ";", 0, 1);
        landFault("deed d;law l 1 d;repeal r 1 l ", "l;", 0, 1);
    }

    private static void men() {
        edge("'man' NAME PLACE SIGHT (0 to 9)");
        land(TWO + "man m a 0;man n b 9;man o b 00;man p a 09;", 6, 0);
        landFault(TWO + "man m a ", "10;", 0, 2);
        landFault(TWO + "man m a ", "99;", 0, 2);
        landFault(TWO + "man m a", ";", 0, 1);
        landFault(TWO + "man m ", "0;", 0, 1);
    }

    private static void rounds() {
        edge("'round' MAN PLACE { PLACE } (each MAN once; 8 PLACES at most)");
        land(ALL + "round m a;round n b a b a b a b a;", 8, 0);
        landFault(ALL + "round m", ";", 0, 1);
        landFault(ALL + "round n b a b a b a b a ", "b;", 0, 4);
        landFault(ALL + "round m a;round n a;round ", "m b;", 0, 3);
        landFault(ALL + "round m a ", "1;", 0, 1);
    }

    private static void clerks() {
        edge("'clerk' MAN MAN (the first reads for the second; unlike; each first one once)");
        land(ALL + "man o a 1;clerk m n;clerk o n;clerk n m;", 10, 0);
        landFault(ALL + "clerk m ", "m;", 0, 3);
        landFault(ALL + "man o a 1;clerk m n;clerk ", "m o;", 0, 3);
        ReadBound x = Check.land(ALL + "clerk n m;");
        Check.due("for whom n reads", x.man(1, 3), 0);
        Check.due("m reads for nobody", x.man(0, 3), NONE);
    }

    private static void posts() {
        edge("'post' LAW PLACE (each two once; LAW: also a repeal, here and below)");
        land(ALL + "repeal r 1 l;post l a;post l b;post r a;post r b;", 11, 0);
        landFault(ALL + "post l a;post l ", "a;", 0, 3);
        landFault(ALL + "repeal r 1 l;post r b;post r ", "b;", 0, 3);
        diary("posts calm a;", NONE, 0);
        sentence("bound calm", 1, 0);
        ReadBound x = Check.land(ALL + "repeal r 1 l;");
        Check.due("a repeal is posted", x.post(1, 0), 0);
        Check.due("boards of a repeal", x.boards(0, 1, 1), 0);
        Check.due("posts of a repeal", x.posts(1, 1), 2);
        Check.due("way without a repeal", x.way(0, 0, 2), 0);
    }

    private static void names() {
        edge("NAME: a WORD, none of those told here, in a DIARY or a SENTENCE; told once.");
        String told = "place road deed law repeal man round clerk post goes does wears bares fevers posts rains day "
                + "or and not blind free bound may in sight words did number";
        for (String word : told.split(" ")) {
            land("place " + word + ";", -7, 1);
            land("deed " + word + ";", -6, 1);
            landFault("deed d;", "law " + word + " 1 d;", 4, 1);
            landFault("deed d;law l 1 d;", "repeal " + word + " 1 l;", 7, 1);
            landFault("place a;", "man " + word + " a 1;", 4, 1);
            land("place " + word.substring(1) + "q;", 1, 0);
        }
        for (String near : "places roads deeds laws line name word days go do wear fever rain ors frees told".split(" ")) {
            land("place " + near + ";", 1, 0);
        }
        land("place a;place a;", -15, 3);
        land("deed a;place a;", -14, 3);
        landFault("place a;deed d;", "law a 1 d;", 4, 3);
        landFault("place a;deed d;law l 1 d;", "repeal l 1 l;", 7, 3);
        landFault("place a;", "man a a 1;", 4, 3);
        landFault(ALL, "place m;", 6, 3);
    }

    private static void mostOfASort() {
        edge("10 PLACES, 16 roads, 5 DEEDS, 6 LAWS (repeals counted), 6 MEN at most");
        land(TEN, 10, 0);
        landFault(TEN, "place k;", 0, 4);
        StringBuilder roads = new StringBuilder(TEN);
        for (int i = 0; i < 8; i++) {
            roads.append("road a ").append((char) ('b' + i)).append(";road j ").append((char) ('b' + i)).append(';');
        }
        land(roads.toString(), 26, 0);
        landFault(roads.toString(), "road a j;", 0, 4);
        land(FIVE, 5, 0);
        landFault(FIVE, "deed f;", 0, 4);
        String laws = FIVE + "law k 1 a;law l 1 a;law m 1 a;law n 1 a;law o 1 a;";
        land(laws + "law p 1 a;", 11, 0);
        land(laws + "repeal p 1 o;", 11, 0);
        landFault(laws + "law p 1 a;", "law q 1 a;", 0, 4);
        landFault(laws + "law p 1 a;", "repeal q 1 a;", 0, 4);
        landFault(laws + "repeal p 1 o;", "law q 1 a;", 0, 4);
        landFault(laws + "repeal p 1 o;", "repeal q 1 a;", 0, 4);
        String men = "place a;man k a 1;man l a 1;man m a 1;man n a 1;man o a 1;man p a 1;";
        land(men, 7, 0);
        landFault(men, "man q a 1;", 0, 4);
        ReadBound x = Check.land(roads + "deed y;");
        Check.due("PLACES", x.count(0), 10);
        Check.due("roads", x.count(1), 16);
    }

    private static void numbered() {
        edge("PLACES, DEEDS, LAWS, MEN numbered from 0 each");
        ReadBound x = Check.land("deed d;place a;law l 3 d;man m a 5;deed e;place b;repeal r 4 l;man n b 6;law k 7 e;");
        Check.due("LENGTH of l", x.law(0, 0), 3);
        Check.due("r repeals l", x.law(1, 2), 0);
        Check.due("k forbids e", x.law(2, 1), 2);
        Check.due("SIGHT of m", x.man(0, 1), 5);
        Check.due("SIGHT of n", x.man(1, 1), 6);
        Check.due("PLACE of n", x.man(1, 0), 1);
        Check.due("MEN in a", x.place(0, 2), 1);
    }

    // ---- DIARY

    private static void diaryBytes() {
        edge("A DIARY is a text of at most 400 bytes");
        diary(Check.times(" ", 394) + "day 1;", NONE, 0);
        diary("day 1;" + Check.times("\n", 394), NONE, 0);
        diary(Check.times(" ", 400), NONE, 0);
        diary(Check.times(" ", 401), -402, 1);
        diary(Check.times(" ", 395) + "day 1;", -402, 1);
        diary("day 1;" + Check.times("\n", 395), -402, 1);
        diary("day 1;" + Check.times(" ", 934), -402, 1);
    }

    private static void diaryLines() {
        edge("{ LINE ; }, 40 at most");
        diary("", NONE, 0);
        diary(Check.times("day 1;", 40), NONE, 0);
        diary(Check.times("day 1;", 41), -242, 4);
        diary(";", -2, 1);
        diary("day 1", -7, 1);
        diary("day 1;;", -8, 1);
        diary("day 1 day 1;", -8, 1);
    }

    private static void diaryForms() {
        edge("MAN ( 'goes' PLACE | 'does' DEED | 'wears' | 'bares' | 'fevers' ) | 'posts' LAW PLACE | 'rains' PLACE |");
        diary("joe goes b;joe does sing;joe wears;joe bares;joe fevers;posts tax a;rains a;", NONE, 0);
        diary("joe", -5, 1);
        diary("joe rains a;", -6, 1);
        diary("joe goes sing;", -11, 3);
        diary("joe does b;", -11, 3);
        diary("joe wears b;", -12, 1);
        diary("posts a tax;", -8, 3);
        diary("posts tax;", -11, 1);
        diary("rains tax;", -8, 3);
        diary("wears joe;", -2, 1);
        diary("tax goes a;", -2, 3);
    }

    private static void diaryDays() {
        edge("'day' N (1 to 60)");
        diary("day 1;day 60;day 01;", NONE, 0);
        diary("day 0;", -6, 2);
        diary("day 00;", -6, 2);
        diary("day 61;", -6, 2);
        diary("day 99;", -6, 2);
        diary("day;", -5, 1);
    }

    // ---- SENTENCE

    private static void sentenceBytes() {
        edge("A SENTENCE is a text of at most 200 bytes");
        sentence(Check.times(" ", 196) + "free", 1, 0);
        sentence("free" + Check.times("\n", 196), 1, 0);
        sentence(Check.times(" ", 197) + "free", -201, 1);
        sentence("free" + Check.times("\n", 197), -201, 1);
        sentence("free" + Check.times(" ", 936), -201, 1);
    }

    private static void conditions() {
        edge("COND: ALL { 'or' ALL }. ALL: ONE { 'and' ONE }. ONE: 'not' ONE | ( COND ) |");
        sentence("", -1, 1);
        sentence("or", -1, 1);
        sentence("free or", -8, 1);
        sentence("free and", -9, 1);
        sentence("free and or free", -10, 1);
        sentence("not", -4, 1);
        sentence("()", -2, 1);
        sentence("(free", -6, 1);
        sentence("free)", -5, 1);
        sentence("(free))", -7, 1);
        sentence("free free", -6, 1);
        sentence("free not free", -6, 1);
        sentence("free;", -5, 1);
        ReadBound x = Check.land("place a;man m a 1;man n a 1;man o a 1;man p a 1;");
        Check.due("and ahead of or", saidOf(x, "number=0 or number=1 and number=2"), 1);
        Check.due("and ahead of or", saidOf(x, "number=2 and number=1 or number=0"), 1);
        Check.due("a bracket ahead of and", saidOf(x, "(number=0 or number=1)and number=1"), 2);
        Check.due("not of one ONE", saidOf(x, "not number=0 and number=1"), 2);
        Check.due("not of one ONE", saidOf(x, "not number=0 or number=0"), 15);
        Check.due("not of a bracket", saidOf(x, "not(number=0 or number=1)"), 12);
        Check.due("not of a not", saidOf(x, "not not number=3"), 8);
    }

    private static void blind() {
        edge("'blind' (wears blinkers, or has SIGHT 0)");
        ReadBound x = Check.land("place a;man m a 0;man n a 1;man o a 1;");
        Check.due("SIGHT 0", saidOf(x, "blind"), 1);
        x.wear(1, 1);
        Check.due("blinkers", saidOf(x, "blind"), 3);
        x.wear(0, 1);
        Check.due("both", saidOf(x, "blind"), 3);
        x.wear(1, 0);
        Check.due("bared", saidOf(x, "blind"), 1);
    }

    private static void free() {
        edge("'free' (is bound by nothing now)");
        ReadBound x = Check.land("place a;deed d;law l 2 d;man m a 0;man n a 1;man o a 2;post l a;");
        Check.due("half binds on DAY 0", saidOf(x, "free"), 1);
        x.days(1);
        Check.due("not on DAY 1", saidOf(x, "free"), 3);
        x.days(9);
        Check.due("all forgotten", saidOf(x, "free"), 7);
    }

    private static void boundNow() {
        edge("'bound' LAW (now) | 'may' DEED | 'in' PLACE |");
        ReadBound x = Check.land("place a;place b;deed d;deed e;law l 2 d;repeal r 1 l;law k 1 e;man m a 1;man n a 2;man o b 1;post l a;post k b;");
        Check.due("half binds on DAY 0", saidOf(x, "bound l"), 3);
        Check.due("may", saidOf(x, "may d"), 4);
        Check.due("may the other", saidOf(x, "may e"), 3);
        x.days(1);
        Check.due("not on DAY 1", saidOf(x, "bound l"), 2);
        Check.due("may", saidOf(x, "may d"), 5);
        x.post(1, 0);
        Check.due("repealed", saidOf(x, "bound l"), 0);
        Check.due("may", saidOf(x, "may d"), 7);
        Check.due("a repeal binds nobody", saidOf(x, "bound r"), 0);
        Check.due("in", saidOf(x, "in a"), 3);
        Check.due("in the other", saidOf(x, "in b"), 4);
    }

    private static void comparisons() {
        edge("( 'sight' | 'words' | 'did' | 'number' ) SIGN NUMBER (words that he has in all; DEEDS done; his number). SIGN: < = >.");
        ReadBound x = Check.land("place a;deed d;law l 9 d;repeal r 9 l;man m a 0;man n a 4;man o a 5;post l a;post r a;");
        Check.due("sight <", saidOf(x, "sight<4"), 1);
        Check.due("sight =", saidOf(x, "sight=4"), 2);
        Check.due("sight >", saidOf(x, "sight>4"), 4);
        Check.due("words of both <", saidOf(x, "words<8"), 1);
        Check.due("words of both =", saidOf(x, "words=8"), 2);
        Check.due("words of both >", saidOf(x, "words>8"), 4);
        x.act(1, 0);
        x.act(2, 0);
        x.act(0, 0);
        x.act(0, 0);
        Check.due("DEEDS that he may not do are none: did <", saidOf(x, "did<2"), 6);
        Check.due("did =", saidOf(x, "did=2"), 1);
        Check.due("did >", saidOf(x, "did>1"), 1);
        Check.due("number <", saidOf(x, "number<1"), 1);
        Check.due("number =", saidOf(x, "number=01"), 2);
        Check.due("number >", saidOf(x, "number>1"), 4);
        Check.due("less than 0", saidOf(x, "number<0"), 0);
        for (int i = 0; i < 97; i++) {
            x.act(0, 0);
        }
        Check.due("99 DEEDS", saidOf(x, "did=99"), 1);
        x.act(0, 0);
        Check.due("100 DEEDS", saidOf(x, "did>99"), 1);
        ReadBound y = Check.land("place a;deed d;law p 30 d;law q 30 d;law r 30 d;law s 30 d;law t 30 d;law u 30 d;man m a 0;man n a 9;"
                + "post p a;post q a;post r a;post s a;post t a;post u a;");
        for (int i = 0; i < 3; i++) {
            y.wear(1, 1);
            y.wear(1, 0);
        }
        Check.due("180 words", saidOf(y, "words>99"), 2);
        sentence("sight", -6, 1);
        sentence("sight 1", -7, 1);
        sentence("sight<", -7, 1);
        sentence("sight<>1", -7, 1);
        sentence("sight;1", -6, 1);
        sentence("sight(1", -6, 1);
    }

    private static void ones() {
        edge("20 ONES,");
        sentence("free" + Check.times(" and free", 19), 20, 0);
        sentenceFault("free" + Check.times(" and free", 19) + " and ", "free", 0, 4);
        sentence("free" + Check.times(" or free", 18) + " or in a", 20, 0);
        sentence(Check.times("(free)or ", 9) + "not free", 20, 0);
        sentenceFault(Check.times("(free)or ", 9) + "not ", "not free", 4, 4);
        sentenceFault(Check.times("(free)or ", 9) + "free or ", "(free)", 1, 4);
        sentenceFault(Check.times("(free)or ", 10), "in a", 0, 4);
        ReadBound x = Check.land(Check.LAND);
        Check.due("said of the last of 20", saidOf(x, Check.times("in b or ", 16) + "(not(number>0))"), 1);
        Check.due("said of the last of 20", saidOf(x, Check.times("free and ", 18) + "not in d"), 5);
        Check.due("said of the first of 20", saidOf(x, "in a" + Check.times(" or blind", 19)), 5);
    }

    private static void within() {
        edge("8 within one another");
        sentence(Check.times("not ", 7) + "free", 8, 0);
        sentenceFault(Check.times("not ", 8), "free", 0, 4);
        sentence(Check.times("(", 7) + "free" + Check.times(")", 7), 8, 0);
        sentenceFault(Check.times("(", 8), "free" + Check.times(")", 8), 0, 4);
        sentenceFault(Check.times("(", 8), "(free" + Check.times(")", 9), 0, 4);
        sentence("not(not(not(not in a)))", 8, 0);
        sentenceFault("not(not(not(not(", "in a))))", 0, 4);
        // side by side is not within
        sentence("((((((free and free)or free)))))and(((((((free)))))))", 17, 0);
        sentence("(((((((free or free)))))))", 9, 0);
        sentenceFault("(((((((free or ", "not free)))))))", 4, 4);
    }

    // ---- FAULTS

    private static void firstFault() {
        edge("FAULTS, the first along the text,");
        landFault("place a;place ", "a;law l 0 d;place", 0, 3);
        landFault("deed d;law l ", "0 x;place d;", 0, 2);
        landFault("deed d;law l 1 ", "x 1;law k 0 d;", 0, 3);
        landFault(FIVE, "deed a;place", 0, 4);
        diaryFault("day ", "0;nobody wears;", 0, 2);
        diaryFault("", "nobody wears;day 0;", 0, 3);
        diaryFault(Check.times("day 1;", 40), "day 0;", 0, 4);
        sentenceFault("in ", "x and sight", 0, 3);
        sentenceFault("free ", "x and in x", 0, 1);
        sentenceFault(Check.times("not ", 8), "in x", 0, 4);
    }

    private static void leastFault() {
        edge("of one TOKEN the least: 1 no TOKEN");
        // told twice, but no NAME either
        landFault("place a;place ", "place;", 0, 1);
        // three digits: no TOKEN, and more than 30
        landFault("deed d;law l ", "999 d;", 0, 1);
        // a ninth PLACE that is not told, or of another sort, or no NAME
        landFault(ALL + "round m a b a b a b a b ", "x;", 0, 3);
        landFault(ALL + "round m a b a b a b a b ", "l;", 0, 3);
        landFault(ALL + "round m a b a b a b a b ", "man;", 0, 1);
        landFault(ALL + "round m a b a b a b a b ", "1;", 0, 1);
        // a 41st LINE of a MAN who is not told, or that begins with what can't come
        diaryFault(Check.times("day 1;", 40), "nobody wears;", 0, 3);
        diaryFault(Check.times("day 1;", 40), "a wears;", 0, 3);
        diaryFault(Check.times("day 1;", 40), "goes a;", 0, 1);
        diaryFault(Check.times("day 1;", 40), ";", 0, 1);
        // a 21st ONE and a ninth within that are none
        sentenceFault(Check.times("free or ", 20), "joe", 0, 1);
        sentenceFault(Check.times("free or ", 20), "or", 0, 1);
        sentenceFault(Check.times("not ", 8), "and", 0, 1);
        sentenceFault(Check.times("(", 8), ")", 0, 1);
    }

    private static void cantCome() {
        edge("1 no TOKEN, or one that can't come (at it;");
        land("  a;", -3, 1);
        land("  goes a;", -3, 1);
        land("  7;", -3, 1);
        land("place a  ,", -10, 1);
        land("place a  (", -10, 1);
        landFault(ALL, "road 1 a;", 5, 1);
        landFault(ALL, "road a in;", 7, 1);
        landFault(ALL, "law k d;", 6, 1);
        landFault(ALL, "man o a b;", 8, 1);
        landFault(ALL, "round 1 a;", 6, 1);
        landFault(ALL, "clerk m 1;", 8, 1);
        landFault(ALL, "post 1 a;", 5, 1);
        landFault(ALL, "post l 1;", 7, 1);
        diaryFault("", " place a;", 1, 1);
        diaryFault("", " joe day 1;", 5, 1);
        diaryFault("", "joe goes 1;", 9, 1);
        diaryFault("", "joe does may;", 9, 1);
        diaryFault("", "rains 1;", 6, 1);
        diaryFault("", "posts 1 a;", 6, 1);
        diaryFault("", "day a;", 4, 1);
        sentenceFault("", " joe", 1, 1);
        sentenceFault("", "bound 1", 6, 1);
        sentenceFault("", "in in", 3, 1);
        sentenceFault("", "may (", 4, 1);
        sentenceFault("", "number=a", 7, 1);
    }

    private static void theEnd() {
        edge("the end: how many bytes there are;");
        land("place", -6, 1);
        land("place  \n", -9, 1);
        land("place a", -8, 1);
        land("place a;deed", -13, 1);
        land("place a" + Check.times(" ", 893), -901, 1);
        land("place a" + Check.times(" ", 892), -900, 1);
        diary("day", -5, 1);
        diary("day 1 ", -8, 1);
        diary("joe goes", -10, 1);
        sentence("", -1, 1);
        sentence("  ", -3, 1);
        sentence("not ", -5, 1);
        sentence("sight<", -7, 1);
        sentence("(free ", -7, 1);
    }

    private static void mostBytes() {
        edge("the most bytes told, if there are more and no FAULT is ahead");
        land("place a;" + Check.times(" ", 893), -901, 1);
        land("place a;" + Check.times(" ", 892) + "!", -901, 1);
        land("place" + Check.times(" ", 896), -901, 1);
        land("place a;place a;" + Check.times(" ", 885), -15, 3);
        land("place a;" + Check.times(" ", 891) + "!!", -900, 1);
        diary("day 1;" + Check.times(" ", 395), -402, 1);
        diary("day" + Check.times(" ", 398), -402, 1);
        diary("day 0;" + Check.times(" ", 395), -6, 2);
        diary("day 1;" + Check.times(" ", 393) + "!!", -401, 1);
        sentence("free" + Check.times(" ", 197), -201, 1);
        sentence("not" + Check.times(" ", 198), -201, 1);
        sentence("in x" + Check.times(" ", 197), -4, 3);
        sentence("free" + Check.times(" ", 195) + "!!", -200, 1);
        // 21 ONES, the last of them at the most bytes or behind: not reached
        sentence(Check.times("free or ", 20) + Check.times(" ", 40) + "free", -201, 1);
        sentence(Check.times("free or ", 20) + Check.times(" ", 39) + "free", -200, 4);
    }

    private static void readWhole() {
        edge("TOKENS that begin ahead of it are read whole");
        String ahead = "place a;" + Check.times(" ", 891);
        land(ahead + "place b;", -901, 1);
        land(ahead + "placeb;", -900, 1);
        land(ahead + "p ", -900, 1);
        land(ahead + "place1;", -900, 1);
        land("place b;" + Check.times(" ", 885) + "place bc;", -901, 1);
        land("place bc;" + Check.times(" ", 884) + "place bc;", -900, 3);
        land("place a;" + Check.times(" ", 884) + "man m a 10;", -901, 1);
        land("place a;" + Check.times(" ", 883) + "man m a 10;", -900, 2);
        diary(Check.times(" ", 395) + "day 60;", -402, 1);
        diary(Check.times(" ", 395) + "day 61;", -401, 2);
        diary(Check.times(" ", 399) + "joe wears;", -402, 1);
        diary(Check.times(" ", 399) + "jo wears;", -401, 3);
        sentence(Check.times(" ", 199) + "free", -201, 1);
        sentence(Check.times(" ", 199) + "fre", -200, 1);
        sentence(Check.times(" ", 193) + "bound tax", -201, 1);
        sentence(Check.times(" ", 193) + "bound ta", -200, 3);
    }

    private static void badNumbers() {
        edge("2 a NUMBER that is not as told (at it)");
        landFault("deed d;law l  ", "0 d;", 0, 2);
        landFault("deed d;law l  ", "31 d;", 0, 2);
        landFault("deed d;law l 1 d;repeal r  ", "0 l;", 0, 2);
        landFault("deed d;law l 1 d;repeal r  ", "31 l;", 0, 2);
        landFault("place a;man m a  ", "10;", 0, 2);
        diaryFault("day  ", "0;", 0, 2);
        diaryFault("day  ", "61;", 0, 2);
        // where none is due, it can't come
        landFault("place ", "0;", 0, 1);
        landFault("deed d;law l 1 ", "0;", 0, 1);
    }

    private static void badNames() {
        edge("3 a NAME told twice, not told, or of another sort, a repeal of a repeal,");
        landFault("place a;deed b;place ", "b;", 0, 3);
        landFault("place a;road ", "b a;", 0, 3);
        landFault("place a;road a ", "b;", 0, 3);
        landFault("place a;deed b;road a ", "b;", 0, 3);
        landFault(ALL + "law k 1 ", "l;", 0, 3);
        landFault(ALL + "law k 1 d ", "x;", 0, 3);
        landFault(ALL + "man o ", "x 1;", 0, 3);
        landFault(ALL + "man o ", "m 1;", 0, 3);
        landFault(ALL + "man o ", "o 1;", 0, 3);
        landFault(ALL + "round ", "x a;", 0, 3);
        landFault(ALL + "round ", "a a;", 0, 3);
        landFault(ALL + "round m a ", "m;", 0, 3);
        landFault(ALL + "clerk ", "l m;", 0, 3);
        landFault(ALL + "clerk m ", "a;", 0, 3);
        landFault(ALL + "post ", "d a;", 0, 3);
        landFault(ALL + "post l ", "l;", 0, 3);
        landFault(ALL + "repeal r 1 ", "d;", 0, 3);
        landFault(ALL + "repeal r 1 l;repeal q 1 ", "r;", 0, 3);
        diaryFault("", "x goes a;", 0, 3);
        diaryFault("joe goes ", "joe;", 0, 3);
        diaryFault("joe does ", "a;", 0, 3);
        diaryFault("posts ", "a a;", 0, 3);
        diaryFault("posts tax ", "tax;", 0, 3);
        diaryFault("rains ", "x;", 0, 3);
        sentenceFault("bound ", "beg", 0, 3);
        sentenceFault("may ", "tax", 0, 3);
        sentenceFault("in ", "ida", 0, 3);
    }

    private static void twoAgain() {
        edge("two told again, or alike (at the second)");
        landFault(TWO + "road a b;road a ", "b;", 0, 3);
        landFault(TWO + "road a b;road b ", "a;", 0, 3);
        landFault(TWO + "road b ", "b;", 0, 3);
        landFault(ALL + "clerk n ", "n;", 0, 3);
        landFault(ALL + "post l b;post l ", "b;", 0, 3);
    }

    private static void onceAgain() {
        edge("what is told once told again (at it)");
        landFault(ALL + "law k 1 d ", "d;", 0, 3);
        landFault(ALL + "round n a;round ", "n b;", 0, 3);
        landFault(ALL + "clerk n m;clerk ", "n m;", 0, 3);
        landFault(ALL + "clerk n m;clerk ", "n n;", 0, 3);
    }

    private static void oneMore() {
        edge("4 one more than there may be of a sort, a 41st LINE of a DIARY (at the LINE's first WORD)");
        landFault(TEN + "  ", "place a;", 0, 4);
        landFault(FIVE + "  ", "deed a;", 0, 4);
        String laws = FIVE + "law k 1 a;law l 1 a;law m 1 a;law n 1 a;law o 1 a;law p 1 a;";
        landFault(laws + "  ", "law k 0 x;", 0, 4);
        landFault(laws + "  ", "repeal k 0 x;", 0, 4);
        String men = "place a;man k a 1;man l a 1;man m a 1;man n a 1;man o a 1;man p a 1;";
        landFault(men + "  ", "man k x 99;", 0, 4);
        diaryFault(Check.times("day 1;", 40) + "  ", "day 1;", 0, 4);
        diaryFault(Check.times("day 1;", 40) + "  ", "joe goes x;", 0, 4);
        diaryFault(Check.times("day 1;", 40) + "  ", "posts x x;", 0, 4);
        diaryFault(Check.times("day 1;", 40) + "  ", "rains x;", 0, 4);
        diary(Check.times("day 1;", 40) + "  ", NONE, 0);
    }

    private static void lineOfTooMany() {
        edge("a ninth PLACE of a round, a 21st ONE, a ninth within (at it)");
        landFault(ALL + "round m a b a b a b a b  ", "a;", 0, 4);
        landFault(ALL + "round m a b a b a b a b  ", "a x;", 0, 4);
        sentenceFault(Check.times("free or ", 20) + " ", "free", 0, 4);
        sentenceFault(Check.times("free or ", 20) + " ", "in x", 0, 4);
        sentenceFault(Check.times("not ", 8) + " ", "free", 0, 4);
        sentenceFault(Check.times("not ", 8) + " ", "not", 0, 4);
    }
}
