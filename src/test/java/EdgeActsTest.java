/** The edges of promises 1 to 17: each sentence of theirs that names one. */
public final class EdgeActsTest {
    private static final int NONE = ReadBound.NONE;
    private static final int[] FAR = {-2, 1000, Integer.MAX_VALUE, Integer.MIN_VALUE};

    public static void main(String[] args) {
        emptyLand();
        feedOrder();
        feedFull();
        endFits();
        endRefused();
        landEmptiesTape();
        landLines();
        landFault();
        landStays();
        faultOfLatest();
        faultStays();
        faultOfNone();
        lawRepeals();
        lawNone();
        lawOfAFullLand();
        manReadsForNone();
        manThrows();
        manOfAFullLand();
        placeNone();
        placeOfAFullLand();
        nowLastDay();
        nowNone();
        nowOfAFullLand();
        goNone();
        actMayNot();
        actNone();
        wearNone();
        feverNone();
        postNone();
        rainNone();
        daysGone();
        daysNone();
        undoDone();
        undoNotDone();
        undoDrawn();
        undoDiary();
        undoEight();
        undoNone();
        Check.end();
    }

    /** Puts a text of less than 20 bytes on an empty tape. */
    private static void textOf(ReadBound x, String text) {
        Check.tape(x, text);
        Check.due("bytes of the tape", x.count(5), text.length());
    }

    // ---- 1 to 5

    private static void emptyLand() {
        Check.edge(1, "An empty LAND; an empty tape.");
        ReadBound x = new ReadBound();
        for (int what = 0; what <= 5; what++) {
            Check.due("count(" + what + ")", x.count(what), 0);
        }
        Check.due("law", x.law(0, 0), NONE);
        Check.noMan(x, 0, 0);
        Check.due("place", x.place(0, 0), NONE);
        for (int what = 0; what <= 5; what++) {
            Check.due("now(" + what + ")", x.now(what), 0);
        }
        Check.due("end", x.end(1), false);
        Check.due("days go by all the same", x.days(1), 1);
        Check.due("a SENTENCE, too", Check.sentenceOf(x, "free"), 1);
        Check.due("said of nobody", x.said(NONE), 0);
        Check.due("another object is empty, too", new ReadBound().now(0), 0);
    }

    private static void feedOrder() {
        Check.edge(2, "Twenty bytes come behind the tape, of each number the highest first: how many it has;");
        ReadBound x = new ReadBound();
        Check.due("feed", x.feed(0x706c6163, 0x65206162, 0x63646566, 0x673b6465, 0x65642064), 20);
        Check.due("feed behind it", x.feed(0x3b808182, 0xff7f0000, 0, 0, Integer.MIN_VALUE), 40);
        Check.due("how many", x.count(5), 40);
        // "place abcdefg;deed d;" and a byte 128, which is no TOKEN
        Check.due("land", x.land(), -1 - 21);
        x.feed(0x706c6163, 0x65206162, 0x63646566, 0x673b6465, 0x65642064);
        x.feed(0x3b000000, 0, 0, 0, 0);
        x.end(21);
        Check.due("land", x.land(), 2);
        Check.due("feed behind an end", x.feed(0x20202020, 0x20202020, 0x20202020, 0x20202020, 0x20202020), 20);
        x.end(3);
        Check.due("feed behind an end", x.feed(0x20202020, 0x20202020, 0x20202020, 0x20202020, 0x20202021), 23);
        Check.due("at the last byte", x.land(), -1 - 22);
    }

    private static void feedFull() {
        Check.edge(2, "NONE, and none come, if it would have more than 940.");
        ReadBound x = new ReadBound();
        for (int i = 1; i <= 47; i++) {
            Check.due("feed", x.feed(0x20202020, 0x20202020, 0x20202020, 0x20202020, 0x20202020), 20 * i);
        }
        Check.due("more than 940", x.feed(0x21212121, 0, 0, 0, 0), NONE);
        Check.due("none come", x.count(5), 940);
        Check.due("to 921", x.end(921), true);
        Check.due("941", x.feed(0x21212121, 0, 0, 0, 0), NONE);
        Check.due("none come", x.count(5), 921);
        Check.due("to 920", x.end(920), true);
        Check.due("940", x.feed(0x21212121, 0, 0, 0, 0), 940);
        Check.due("to 900", x.end(900), true);
        Check.due("none of the refused bytes came", x.land(), 0);
    }

    private static void endFits() {
        Check.edge(3, "The tape has its first n bytes alone: true;");
        ReadBound x = new ReadBound();
        Check.due("end(0) of an empty tape", x.end(0), true);
        textOf(x, "place a;place b;");
        Check.due("all of them", x.end(16), true);
        Check.due("bytes", x.count(5), 16);
        Check.due("the first 8", x.end(8), true);
        Check.due("bytes", x.count(5), 8);
        Check.due("land", x.land(), 1);
        textOf(x, "place a;");
        Check.due("none", x.end(0), true);
        Check.due("bytes", x.count(5), 0);
    }

    private static void endRefused() {
        Check.edge(3, "false, if it has not so many, or n is below 0.");
        ReadBound x = new ReadBound();
        Check.due("end(1) of an empty tape", x.end(1), false);
        textOf(x, "place a;");
        for (int bad : new int[] {9, 20, 940, 941, -1, -8, Integer.MAX_VALUE, Integer.MIN_VALUE}) {
            Check.due("end(" + bad + ")", x.end(bad), false);
            Check.due("bytes", x.count(5), 8);
        }
        x.end(7);
        Check.due("bytes that were cut off", x.end(8), false);
        Check.due("land", x.land(), -8);
    }

    private static void landEmptiesTape() {
        Check.edge(4, "The tape (empty then, here and below) is the LAND now");
        ReadBound x = new ReadBound();
        textOf(x, "place a;");
        x.land();
        Check.due("bytes", x.count(5), 0);
        textOf(x, "place a");
        x.land();
        Check.due("bytes behind a FAULT", x.count(5), 0);
        textOf(x, "day 1;");
        x.diary(0);
        Check.due("bytes behind diary(0)", x.count(5), 0);
        textOf(x, "day 1;");
        x.diary(1);
        Check.due("bytes behind diary(1)", x.count(5), 0);
        textOf(x, "day");
        x.diary(1);
        Check.due("bytes behind a FAULT", x.count(5), 0);
        textOf(x, "free");
        x.sentence();
        Check.due("bytes behind sentence()", x.count(5), 0);
        textOf(x, "fre");
        x.sentence();
        Check.due("bytes behind a FAULT", x.count(5), 0);
    }

    private static void landLines() {
        Check.edge(4, "how many LINES;");
        ReadBound x = new ReadBound();
        Check.due("none", x.land(), 0);
        Check.due("one", Check.landOf(x, "place a;"), 1);
        StringBuilder most = new StringBuilder();
        for (char p = 'a'; p <= 'j'; p++) {
            most.append("place ").append(p).append(';');
        }
        for (char p = 'b'; p <= 'j'; p++) {
            most.append("road a ").append(p).append(';');
        }
        for (char p = 'c'; p <= 'i'; p++) {
            most.append("road b ").append(p).append(';');
        }
        most.append("deed k;deed l;deed m;deed n;deed o;");
        for (char l = 'p'; l <= 'u'; l++) {
            most.append("law ").append(l).append(" 1 k;");
        }
        for (char m = 'a'; m <= 'f'; m++) {
            most.append("man x").append(m).append(" a 1;round x").append(m).append(" a;");
        }
        for (char l = 'p'; l <= 'u'; l++) {
            most.append("post ").append(l).append(" a;post ").append(l).append(" b;");
        }
        Check.due("many", Check.landOf(x, most.toString()), 10 + 16 + 5 + 6 + 12 + 12);
        Check.due("a new one in its place", Check.landOf(x, "deed a;"), 1);
        Check.due("PLACES", x.count(0), 0);
    }

    private static void landFault() {
        Check.edge(4, "-1 less the place of a FAULT: it stays.");
        ReadBound x = Check.land("place a;deed d;man m a 1;");
        x.days(2);
        x.act(0, 0);
        Check.sentenceOf(x, "in a");
        String[] texts = {"!", "place b;place", "deed d;law l 0 d;", "place b;place b;"};
        int[] places = {0, 13, 13, 14};
        for (int i = 0; i < texts.length; i++) {
            Check.due("land of " + texts[i], Check.landOf(x, texts[i]), -1 - places[i]);
            Check.due("PLACES", x.count(0), 1);
            Check.due("DEEDS", x.count(2), 1);
            Check.due("LAWS", x.count(3), 0);
            Check.due("MEN", x.count(4), 1);
            Check.due("DAY", x.now(0), 2);
            Check.due("DEEDS done", x.man(0, 5), 1);
            Check.due("SENTENCE", x.said(NONE), 1);
            Check.due("names", Check.diaryOf(x, "m goes b;", 0), -2 - 7);
        }
        Check.due("undo", x.undo(), 1);
    }

    private static void landStays() {
        Check.edge(4, "is the LAND now");
        ReadBound x = Check.land(Check.LAND);
        x.way(0, 2, 0);
        x.posts(0, 1);
        x.reads(1);
        Check.diaryOf(x, "day 9;", 0);
        int posted = x.posted();
        x.days(4);
        x.image(1);
        Check.landOf(x, "place z;");
        Check.due("what way() told stays", x.step(1), 2);
        Check.due("what posts() told stays", x.posted(), posted);
        Check.due("what reads() told stays", x.surely(), 1);
        Check.due("what diary() told stays", x.told(2), 9);
        Check.due("an image stays", x.restore(1), true);
        Check.due("of the other LAND", x.count(0), 4);
        Check.due("of its DAY", x.now(0), 4);
    }

    private static void faultOfLatest() {
        Check.edge(5, "The kind of the FAULT of the latest land(), diary() or sentence()");
        ReadBound x = Check.land(Check.LAND);
        String[] lands = {"x", "deed d;law l 0 d;", "place a;place a;", "deed a;deed b;deed c;deed d;deed e;deed f;"};
        String[] diaries = {"x1", "day 0;", "x wears;", Check.times("day 1;", 41)};
        String[] sentences = {"x", "day", "in x", Check.times("not ", 8) + "free"};
        int[] kinds = {1, 1, 3, 4};
        for (int kind = 1; kind <= 4; kind++) {
            Check.landOf(x, lands[kind - 1]);
            Check.due("of a LAND", x.fault(), kind);
            Check.diaryOf(x, diaries[4 - kind], 1);
            Check.due("of a DIARY", x.fault(), 5 - kind);
            Check.sentenceOf(x, sentences[kind - 1]);
            Check.due("of a SENTENCE", x.fault(), kinds[kind - 1]);
            Check.due("told again", x.fault(), kinds[kind - 1]);
        }
    }

    private static void faultStays() {
        Check.edge(5, "(a diary() of -1000 leaves it)");
        ReadBound x = new ReadBound();
        x.diary(2);
        Check.due("ahead of any", x.fault(), 0);
        Check.landOf(x, "place a;place a;");
        for (int bad : new int[] {-1, 2, Integer.MAX_VALUE, Integer.MIN_VALUE}) {
            Check.due("diary", x.diary(bad), -1000);
            Check.due("fault", x.fault(), 3);
        }
        Check.landOf(x, "place a;");
        x.diary(2);
        Check.due("none", x.fault(), 0);
    }

    private static void faultOfNone() {
        Check.edge(5, "0 without one and ahead of any.");
        ReadBound x = new ReadBound();
        Check.due("ahead of any", x.fault(), 0);
        Check.sentenceOf(x, "");
        Check.due("one", x.fault(), 1);
        x.land();
        Check.due("a LAND without one", x.fault(), 0);
        Check.sentenceOf(x, "");
        x.diary(0);
        Check.due("a DIARY without one", x.fault(), 0);
        Check.landOf(x, "!");
        Check.sentenceOf(x, "free");
        Check.due("a SENTENCE without one", x.fault(), 0);
        Check.landOf(x, "place a;man m a 1;");
        Check.landOf(x, "!");
        Check.due("a WRONG LINE", Check.diaryOf(x, "m bares;", 0), 0);
        Check.due("is no FAULT", x.fault(), 0);
    }

    // ---- 6 to 9

    /** As many of each sort as there may be; the last ones of each sort have to do with the last ones of others. */
    private static ReadBound fullLand() {
        StringBuilder text = new StringBuilder("deed k;deed l;deed m;deed n;deed o;");
        for (char p = 'a'; p <= 'j'; p++) {
            text.append("place ").append(p).append(';');
        }
        for (char p = 'a'; p <= 'i'; p++) {
            text.append("road j ").append(p).append(';');
        }
        for (char p = 'b'; p <= 'h'; p++) {
            text.append("road a ").append(p).append(';');
        }
        text.append("law p 30 k l m n o;law q 2 k;law r 3 l;law s 4 m;repeal t 5 p;law u 1 o;");
        text.append("man v a 1;man w b 2;man x c 3;man y d 4;man z j 0;man zz j 9;");
        text.append("clerk zz z;clerk v zz;round zz j;post u j;post p a;post p j;post t j;");
        return Check.land(text.toString());
    }

    private static void lawOfAFullLand() {
        Check.edge(6, "Of a LAW: 0 LENGTH, 1 DEEDS that it forbids, as bits,");
        ReadBound x = fullLand();
        int[] lengths = {30, 2, 3, 4, 5, 1};
        int[] deeds = {31, 1, 2, 4, 0, 16};
        for (int l = 0; l < 6; l++) {
            Check.due("LENGTH of " + l, x.law(l, 0), lengths[l]);
            Check.due("DEEDS of " + l, x.law(l, 1), deeds[l]);
        }
        Check.due("no LAW more", x.law(6, 0), NONE);
        Check.edge(6, ", 3 PLACES where it is posted, as bits.");
        int[] places = {513, 0, 0, 0, 512, 512};
        for (int l = 0; l < 6; l++) {
            Check.due("PLACES of " + l, x.law(l, 3), places[l]);
        }
        for (int p = 0; p < 9; p++) {
            Check.due("post", x.post(5, p), 0);
        }
        Check.due("posted in all", x.law(5, 3), 1023);
    }

    private static void manOfAFullLand() {
        Check.edge(7, "Of a MAN: 0 PLACE, 1 SIGHT, 2 whether he wears blinkers (1, 0),");
        ReadBound x = fullLand();
        int[] places = {0, 1, 2, 3, 9, 9};
        int[] sights = {1, 2, 3, 4, 0, 9};
        x.wear(5, 1);
        for (int m = 0; m < 6; m++) {
            Check.due("PLACE", x.man(m, 0), places[m]);
            Check.due("SIGHT", x.man(m, 1), sights[m]);
            Check.due("blinkers", x.man(m, 2), m == 5 ? 1 : 0);
        }
        Check.noMan(x, 6, 0);
        Check.edge(7, ", 4 whether he went today (1, 0), 5 DEEDS done so far.");
        x.go(5, 0);
        x.act(5, 0);
        x.act(5, 3);
        x.act(5, 4);
        for (int m = 0; m < 6; m++) {
            Check.due("went", x.man(m, 4), m == 5 ? 1 : 0);
            Check.due("DEEDS but the one forbidden", x.man(m, 5), m == 5 ? 2 : 0);
        }
        x.days(1);
        Check.due("not today", x.man(5, 4), 0);
        Check.due("so far", x.man(5, 5), 2);
    }

    private static void placeOfAFullLand() {
        Check.edge(8, "Of a PLACE: 0 PLACES to which there is a road, as bits, 1 LAWS posted there, as bits, 2 MEN there, as bits.");
        ReadBound x = fullLand();
        Check.due("roads of the last one", x.place(9, 0), 511);
        Check.due("roads of the first one", x.place(0, 0), 512 + 254);
        Check.due("roads of i", x.place(8, 0), 512);
        Check.due("LAWS", x.place(9, 1), 1 + 16 + 32);
        for (int l = 1; l < 4; l++) {
            x.post(l, 9);
        }
        Check.due("all LAWS", x.place(9, 1), 63);
        Check.due("MEN", x.place(9, 2), 48);
        for (int m = 0; m < 4; m++) {
            x.go(m, 9);
        }
        Check.due("all MEN", x.place(9, 2), 63);
        Check.due("none", x.place(0, 2), 0);
        Check.due("no PLACE more", x.place(10, 0), NONE);
    }

    private static void nowOfAFullLand() {
        Check.edge(9, ", 1 posts, 2 DEEDS done so far, 3 MEN who wear blinkers, as bits, 4 rains so far, 5 MEN who are free now, as bits.");
        ReadBound x = fullLand();
        Check.due("posts", x.now(1), 4);
        Check.due("free: all but him who reads u, and him for whom he does", x.now(5), 15);
        for (int m = 0; m < 6; m++) {
            x.wear(m, 1);
            x.act(m, 0);
        }
        Check.due("all blinkers", x.now(3), 63);
        Check.due("DEEDS", x.now(2), 6);
        for (int l = 0; l < 6; l++) {
            for (int p = 0; p < 10; p++) {
                x.post(l, p);
            }
        }
        Check.due("all posts", x.now(1), 60);
        for (int p = 0; p < 10; p++) {
            x.rain(p);
            x.rain(p);
        }
        Check.due("no posts", x.now(1), 0);
        Check.due("rains", x.now(4), 10);
        x.days(10);
        Check.due("all are free", x.now(5), 63);
        Check.due("rains so far", x.now(4), 10);
        Check.due("DEEDS so far", x.now(2), 6);
    }

    private static void lawRepeals() {
        Check.edge(6, "2 what it repeals (NONE)");
        ReadBound x = Check.land("deed d;law l 1 d;law k 2 d;repeal r 3 k;repeal q 4 l;");
        int[] due = {NONE, NONE, 1, 0};
        for (int l = 0; l < 4; l++) {
            Check.due("LENGTH", x.law(l, 0), l + 1);
            Check.due("repeals", x.law(l, 2), due[l]);
            Check.due("forbids", x.law(l, 1), l < 2 ? 1 : 0);
            Check.due("is nowhere", x.law(l, 3), 0);
        }
    }

    private static void lawNone() {
        Check.edge(6, "NONE: no such ones.");
        ReadBound x = Check.land("place a;deed d;law l 1 d;law k 2 d;post k a;");
        Check.due("the last LAW", x.law(1, 3), 1);
        Check.due("one more", x.law(2, 0), NONE);
        Check.due("one less", x.law(-1, 0), NONE);
        Check.due("another what", x.law(0, 4), NONE);
        Check.due("another what", x.law(0, -1), NONE);
        for (int bad : FAR) {
            Check.due("law", x.law(bad, 3), NONE);
            Check.due("law", x.law(1, bad), NONE);
        }
    }

    private static void manReadsForNone() {
        Check.edge(7, "3 for whom he reads (NONE)");
        ReadBound x = Check.land("place a;man m a 1;man n a 1;man o a 1;clerk o m;clerk m n;");
        Check.due("m", x.man(0, 3), 1);
        Check.due("n", x.man(1, 3), NONE);
        Check.due("o", x.man(2, 3), 0);
    }

    private static void manThrows() {
        Check.edge(7, "NoSuchElementException: no such ones.");
        ReadBound x = Check.land("place a;man m a 1;man n a 2;");
        Check.due("the last MAN", x.man(1, 1), 2);
        Check.due("the last what", x.man(1, 5), 0);
        Check.noMan(x, 2, 0);
        Check.noMan(x, -1, 0);
        Check.noMan(x, 0, 6);
        Check.noMan(x, 0, -1);
        for (int bad : FAR) {
            Check.noMan(x, bad, 0);
            Check.noMan(x, 0, bad);
            Check.noMan(x, bad, bad);
        }
    }

    private static void placeNone() {
        Check.edge(8, "NONE: no such ones.");
        ReadBound x = Check.land("place a;place b;man m b 1;");
        Check.due("the last PLACE", x.place(1, 2), 1);
        Check.due("no roads", x.place(1, 0), 0);
        Check.due("no LAWS", x.place(1, 1), 0);
        Check.due("one more", x.place(2, 0), NONE);
        Check.due("one less", x.place(-1, 0), NONE);
        Check.due("another what", x.place(0, 3), NONE);
        Check.due("another what", x.place(0, -1), NONE);
        for (int bad : FAR) {
            Check.due("place", x.place(bad, 0), NONE);
            Check.due("place", x.place(0, bad), NONE);
        }
    }

    private static void nowLastDay() {
        Check.edge(9, "0 the DAY (400: all are over)");
        ReadBound x = new ReadBound();
        for (int i = 0; i < 6; i++) {
            x.days(60);
        }
        x.days(39);
        Check.due("DAY", x.now(0), 399);
        x.days(1);
        Check.due("DAY", x.now(0), 400);
        x.days(1);
        Check.due("DAY", x.now(0), 400);
    }

    private static void nowNone() {
        Check.edge(9, "NONE for another what.");
        ReadBound x = Check.land(Check.LAND);
        Check.due("the last what", x.now(5), 7);
        Check.due("now(6)", x.now(6), NONE);
        Check.due("now(-1)", x.now(-1), NONE);
        for (int bad : FAR) {
            Check.due("now", x.now(bad), NONE);
        }
    }

    // ---- 10 to 16

    private static void goNone() {
        Check.edge(10, "0, or why not; NONE: no such ones.");
        ReadBound x = Check.land("place a;place b;road a b;man m a 1;man n a 1;");
        Check.due("the last MAN", x.go(1, 1), 0);
        Check.due("he went", x.go(1, 0), 1);
        Check.due("no road", x.go(0, 0), 2);
        Check.due("one MAN more", x.go(2, 1), NONE);
        Check.due("one MAN less", x.go(-1, 1), NONE);
        Check.due("one PLACE more", x.go(0, 2), NONE);
        Check.due("one PLACE less", x.go(0, -1), NONE);
        Check.due("one PLACE more, though he went", x.go(1, 2), NONE);
        for (int bad : FAR) {
            Check.due("go", x.go(bad, 1), NONE);
            Check.due("go", x.go(0, bad), NONE);
        }
        Check.due("one act was done", x.undo(), 0);
    }

    private static void actMayNot() {
        Check.edge(11, "0, or 1: he may not;");
        ReadBound x = Check.land("place a;deed d;deed e;law l 2 d;man m a 1;post l a;");
        Check.due("half on DAY 0", x.act(0, 0), 1);
        Check.due("the other", x.act(0, 1), 0);
        x.days(1);
        Check.due("half on DAY 1", x.act(0, 0), 0);
        Check.due("DEEDS done", x.man(0, 5), 2);
    }

    private static void actNone() {
        Check.edge(11, "NONE: no such ones.");
        ReadBound x = Check.land("place a;deed d;deed e;man m a 1;man n a 1;");
        Check.due("the last ones", x.act(1, 1), 0);
        Check.due("one MAN more", x.act(2, 0), NONE);
        Check.due("one MAN less", x.act(-1, 0), NONE);
        Check.due("one DEED more", x.act(0, 2), NONE);
        Check.due("one DEED less", x.act(0, -1), NONE);
        for (int bad : FAR) {
            Check.due("act", x.act(bad, 0), NONE);
            Check.due("act", x.act(0, bad), NONE);
        }
        Check.due("one act was done", x.undo(), 0);
    }

    private static void wearNone() {
        Check.edge(12, "He WEARS blinkers (on 1), BARES his eyes (0): 0, or why not; NONE: no such ones.");
        ReadBound x = Check.land("place a;man m a 1;man n a 1;");
        Check.due("bares none", x.wear(1, 0), 1);
        Check.due("wears", x.wear(1, 1), 0);
        Check.due("wears them", x.wear(1, 1), 1);
        Check.due("bares", x.wear(1, 0), 0);
        for (int on = 0; on <= 1; on++) {
            Check.due("one MAN more", x.wear(2, on), NONE);
            Check.due("one MAN less", x.wear(-1, on), NONE);
        }
        Check.due("on 2", x.wear(0, 2), NONE);
        Check.due("on -1", x.wear(0, -1), NONE);
        for (int bad : FAR) {
            Check.due("wear", x.wear(bad, 1), NONE);
            Check.due("wear", x.wear(0, bad), NONE);
        }
        Check.due("nobody wears any", x.now(3), 0);
        Check.due("two acts were done", x.undo(), 1);
    }

    private static void feverNone() {
        Check.edge(13, "0, or why not; NONE: no such one.");
        ReadBound x = Check.land("place a;deed d;law l 9 d;man m a 0;man n a 1;post l a;");
        Check.due("the last MAN", x.fever(1), 0);
        Check.due("no words", x.fever(1), 1);
        Check.due("no words", x.fever(0), 1);
        Check.due("one MAN more", x.fever(2), NONE);
        Check.due("one MAN less", x.fever(-1), NONE);
        for (int bad : FAR) {
            Check.due("fever", x.fever(bad), NONE);
        }
        Check.due("one act was done", x.undo(), 0);
    }

    private static void postNone() {
        Check.edge(14, "0, or why not; NONE: no such ones.");
        ReadBound x = Check.land("place a;place b;deed d;law l 9 d;repeal r 9 l;");
        Check.due("the last ones", x.post(1, 1), 0);
        Check.due("it is there", x.post(1, 1), 1);
        Check.due("one LAW more", x.post(2, 0), NONE);
        Check.due("one LAW less", x.post(-1, 0), NONE);
        Check.due("one PLACE more", x.post(0, 2), NONE);
        Check.due("one PLACE less", x.post(0, -1), NONE);
        for (int bad : FAR) {
            Check.due("post", x.post(bad, 0), NONE);
            Check.due("post", x.post(0, bad), NONE);
        }
        Check.due("posts", x.now(1), 1);
        Check.due("one act was done", x.undo(), 0);
    }

    private static void rainNone() {
        Check.edge(15, "0, or why not; NONE: no such one.");
        ReadBound x = Check.land("place a;place b;deed d;law l 9 d;post l b;");
        Check.due("the last PLACE", x.rain(1), 0);
        Check.due("nothing there", x.rain(1), 1);
        Check.due("nothing there", x.rain(0), 1);
        Check.due("one PLACE more", x.rain(2), NONE);
        Check.due("one PLACE less", x.rain(-1), NONE);
        for (int bad : FAR) {
            Check.due("rain", x.rain(bad), NONE);
        }
        Check.due("rains", x.now(4), 1);
        Check.due("one act was done", x.undo(), 0);
    }

    private static void daysGone() {
        Check.edge(16, "n (1 to 60) DAYS go by: how many did;");
        ReadBound x = new ReadBound();
        Check.due("days(1)", x.days(1), 1);
        Check.due("days(60)", x.days(60), 60);
        Check.due("DAY", x.now(0), 61);
        for (int i = 0; i < 5; i++) {
            Check.due("days(60)", x.days(60), 60);
        }
        Check.due("of 60 the last 39", x.days(60), 39);
        Check.due("none", x.days(60), 0);
        Check.due("none", x.days(1), 0);
        x.undo();
        Check.due("just as many as are left", x.days(39), 39);
    }

    private static void daysNone() {
        Check.edge(16, "NONE: not as told.");
        ReadBound x = new ReadBound();
        for (int bad : new int[] {0, -1, 61, Integer.MAX_VALUE, Integer.MIN_VALUE}) {
            Check.due("days(" + bad + ")", x.days(bad), NONE);
        }
        Check.due("DAY", x.now(0), 0);
        Check.due("none was done", x.undo(), NONE);
    }

    // ---- 17

    private static void undoDone() {
        Check.edge(17, "The latest of all these (from go() on) that was done (0; days() above 0)");
        ReadBound x = Check.land(Check.LAND);
        x.go(0, 1);
        Check.due("go", x.undo(), 0);
        Check.due("PLACE", x.man(0, 0), 0);
        Check.due("went", x.man(0, 4), 0);
        Check.due("words", x.words(0, 0), 0);
        x.act(0, 0);
        Check.due("act", x.undo(), 0);
        Check.due("DEEDS", x.now(2), 0);
        x.wear(0, 1);
        Check.due("wear", x.undo(), 0);
        Check.due("blinkers", x.now(3), 0);
        x.wear(1, 1);
        x.wear(1, 0);
        Check.due("bare", x.undo(), 1);
        Check.due("blinkers", x.now(3), 2);
        x.fever(1);
        Check.due("fever", x.undo(), 1);
        Check.due("words", x.words(1, 2), 3);
        x.post(2, 0);
        Check.due("post", x.undo(), 1);
        Check.due("posts", x.now(1), 3);
        Check.due("words", x.words(0, 2), 0);
        x.rain(1);
        Check.due("rain", x.undo(), 1);
        Check.due("rains", x.now(4), 0);
        Check.due("posts", x.now(1), 3);
        x.days(30);
        Check.due("days", x.undo(), 1);
        Check.due("DAY", x.now(0), 0);
        Check.due("words", x.words(1, 2), 3);
        x.days(1);
        Check.due("its round goes on from where it was", x.man(0, 0), 1);
    }

    private static void undoNotDone() {
        Check.edge(17, "that was done (0; days() above 0)");
        ReadBound x = Check.land(Check.LAND);
        x.act(0, 1);
        x.go(0, 2);
        x.go(9, 0);
        x.act(9, 0);
        x.wear(0, 0);
        x.wear(0, 2);
        x.fever(0);
        x.fever(9);
        x.post(0, 1);
        x.post(9, 0);
        x.rain(0);
        x.rain(9);
        x.days(0);
        x.days(61);
        x.drawn(0, 1);
        x.odds(0, 9, 1);
        x.posts(0, 1);
        x.when(0, 0, 60);
        x.way(0, 2, 0);
        x.image(0);
        Check.sentenceOf(x, "free");
        Check.landOf(x, "!");
        Check.due("act", x.undo(), 0);
        Check.due("DEEDS", x.now(2), 0);
        for (int i = 0; i < 7; i++) {
            x.days(60);
        }
        Check.due("DAY", x.now(0), 400);
        x.days(1);
        x.drawn(1, 1);
        Check.due("the latest days() above 0", x.undo(), 6);
        Check.due("DAY", x.now(0), 360);
    }

    private static void undoDrawn() {
        Check.edge(17, "drawn() above 0");
        ReadBound x = Check.land(Check.LAND);
        x.act(0, 0);
        Check.due("drawn", x.drawn(20, 5), 20);
        Check.due("undone whole", x.undo(), 1);
        Check.due("DAY", x.now(0), 0);
        Check.due("PLACE", x.man(0, 0), 0);
        Check.due("posts", x.now(1), 3);
        Check.due("DEEDS", x.now(2), 1);
    }

    private static void undoDiary() {
        Check.edge(17, "a DIARY that was lived is undone");
        ReadBound x = Check.land(Check.LAND);
        Check.diaryOf(x, "ida wears;day 2;", 0);
        Check.due("judged alone", x.undo(), NONE);
        Check.diaryOf(x, "ida wears;day", 1);
        Check.due("a FAULT", x.undo(), NONE);
        x.diary(2);
        Check.due("another lives", x.undo(), NONE);
        x.end(0);
        Check.diaryOf(x, "ida wears;day 2;joe does sing;", 1);
        Check.due("DAY", x.now(0), 2);
        Check.due("lived whole", x.undo(), 0);
        Check.due("DAY", x.now(0), 0);
        Check.due("blinkers", x.now(3), 0);
        Check.diaryOf(x, "ida wears;day 2;ida wears;day 2;", 1);
        Check.due("DAY", x.now(0), 2);
        Check.due("lived as far as it is not WRONG", x.undo(), 0);
        Check.due("DAY", x.now(0), 0);
        Check.diaryOf(x, "ida bares;day 2;", 1);
        Check.due("lived, though nothing of it is not WRONG", x.undo(), 0);
        x.diary(1);
        Check.due("lived, though it has no LINE", x.undo(), 0);
        Check.due("none more", x.undo(), NONE);
    }

    private static void undoEight() {
        Check.edge(17, "how many more can be (8 at most are kept)");
        for (int acts = 1; acts <= 20; acts++) {
            ReadBound x = Check.land(Check.LAND);
            for (int i = 0; i < acts; i++) {
                x.act(0, 0);
            }
            int kept = Math.min(acts, 8);
            for (int left = kept - 1; left >= 0; left--) {
                Check.due("undo", x.undo(), left);
                Check.due("DEEDS", x.now(2), acts - kept + left);
            }
            Check.due("none more", x.undo(), NONE);
            Check.due("DEEDS", x.now(2), acts - kept);
        }
    }

    private static void undoNone() {
        Check.edge(17, "NONE: none is.");
        ReadBound x = Check.land(Check.LAND);
        Check.due("none", x.undo(), NONE);
        x.act(0, 0);
        x.undo();
        Check.due("an undoing is not undone", x.undo(), NONE);
        Check.due("DEEDS", x.now(2), 0);
        x.act(0, 0);
        x.image(0);
        x.restore(0);
        Check.due("behind restore()", x.undo(), NONE);
        x.act(0, 0);
        Check.landOf(x, Check.LAND);
        Check.due("behind land()", x.undo(), NONE);
    }
}
