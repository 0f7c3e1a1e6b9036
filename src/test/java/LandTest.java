/** Promises 4 and 5: LAND texts, their LINES and FAULTS. */
public final class LandTest {
    private static final String PLACES = "place a;place b;";
    private static final String ALL = PLACES + "deed d;law l 1 d;man m a 1;man n b 2;";

    public static void main(String[] args) {
        lines();
        tokens();
        firstWords();
        numbers();
        names();
        twoAndOnce();
        tooMany();
        length();
        whatStays();
        Check.end();
    }

    private static void fault(String text, int at, int kind) {
        ReadBound x = new ReadBound();
        Check.due("land of '" + text + "'", Check.landOf(x, text), -1 - at);
        Check.due("fault of '" + text + "'", x.fault(), kind);
        Check.due("tape behind it", x.count(5), 0);
    }

    /** A FAULT at the end of what is ahead, in what follows. */
    private static void faultBehind(String ahead, String text, int at, int kind) {
        fault(ahead + text, ahead.length() + at, kind);
    }

    private static void fine(String text, int lines) {
        ReadBound x = new ReadBound();
        Check.due("land of '" + text + "'", Check.landOf(x, text), lines);
        Check.due("fault of '" + text + "'", x.fault(), 0);
        Check.due("tape behind it", x.count(5), 0);
    }

    private static void lines() {
        fine("", 0);
        fine(" \n ", 0);
        fine("place a;", 1);
        fine("\nplace\na ; deed\nb;", 2);
        fine("place a;place b;road a b;deed d;law l 30 d;repeal r 01 l;man m b 0;man n a 09;round m a b a;clerk m n;post r a;post l a;", 12);
        fine(Check.LAND, 21);
        fine("place abcdefg;", 1);
        fine(ALL + "clerk m n;clerk n m;", 8);
    }

    private static void tokens() {
        fault("place", 5, 1);
        fault("place ", 6, 1);
        fault("place a", 7, 1);
        fault("place a \n", 9, 1);
        fault("place abcdefgh;", 6, 1);
        fault("place a1;", 6, 1);
        fault("place 1a;", 6, 1);
        fault("place A;", 6, 1);
        fault("place aB;", 7, 1);
        fault("place a.", 7, 1);
        fault("place\ta;", 5, 1);
        fault("place a;\r", 8, 1);
        fault("place a;\0", 8, 1);
        fault("place \u00e9;", 6, 1);
        fault("placea;", 0, 1);
        fault("place a b;", 8, 1);
        fault("place a;;", 8, 1);
        fault("place a(", 7, 1);
        fault("man m 1 1;", 6, 1);
        faultBehind(PLACES, "man m a 100;", 8, 1);
        faultBehind(PLACES, "man m a 1a;", 8, 1);
        faultBehind(PLACES, "man m a b;", 8, 1);
        fault("law l d;", 6, 1);
        faultBehind(ALL, "law k 1;", 7, 1);
        faultBehind(ALL, "law k 1 d 1;", 10, 1);
        faultBehind(ALL, "law k 1 d", 9, 1);
        faultBehind(ALL, "repeal k 1 l l;", 13, 1);
        faultBehind(ALL, "repeal k 1;", 10, 1);
        faultBehind(ALL, "repeal k 1 1;", 11, 1);
        faultBehind(ALL, "repeal;", 6, 1);
        faultBehind(ALL, "law;", 3, 1);
        faultBehind(ALL, "man;", 3, 1);
        faultBehind(ALL, "man 1 a 1;", 4, 1);
        faultBehind(ALL, "man o a;", 7, 1);
        faultBehind(ALL, "clerk;", 5, 1);
        faultBehind(ALL, "clerk 1 m;", 6, 1);
        faultBehind(ALL, "post;", 4, 1);
        faultBehind(ALL, "road;", 4, 1);
        faultBehind(ALL, "round;", 5, 1);
        faultBehind(ALL, "round m;", 7, 1);
        faultBehind(ALL, "clerk m;", 7, 1);
        faultBehind(ALL, "clerk m n m;", 10, 1);
        faultBehind(ALL, "post l;", 6, 1);
        faultBehind(ALL, "road a;", 6, 1);
        faultBehind(ALL, "road a b a;", 9, 1);
    }

    private static void firstWords() {
        fault("a;", 0, 1);
        fault("1;", 0, 1);
        fault(";", 0, 1);
        for (String word : "goes does wears bares fevers posts rains day or and not blind free bound may in sight words did number".split(" ")) {
            fault(word + " a;", 0, 1);
        }
        for (String word : Oracle.TOLD_WORDS) {
            fault("place " + word + ";", 6, 1);
            faultBehind(PLACES, "road a " + word + ";", 7, 1);
            faultBehind(ALL, "law k 1 " + word + ";", 8, 1);
            faultBehind(ALL, "round m a " + word + ";", 10, 1);
        }
    }

    private static void numbers() {
        fault("law l 0 d;", 6, 2);
        fault("law l 00 d;", 6, 2);
        fault("law l 31 d;", 6, 2);
        fault("law l 99 d;", 6, 2);
        faultBehind(ALL, "repeal r 0 l;", 9, 2);
        faultBehind(ALL, "repeal r 31 l;", 9, 2);
        faultBehind(PLACES, "man m a 10;", 8, 2);
        fine("deed d;law l 30 d;repeal r 30 l;", 3);
    }

    private static void names() {
        fault("place a;place a;", 14, 3);
        fault("place a;deed a;", 13, 3);
        fault("deed d;law d 1 d;", 11, 3);
        fault("deed d;law l 1 l;", 15, 3);
        fault("law l 1 d;", 8, 3);
        fault("man m a 1;", 6, 3);
        fault("man m m 1;", 6, 3);
        faultBehind(ALL, "law k 1 m;", 8, 3);
        faultBehind(ALL, "road a m;", 7, 3);
        faultBehind(ALL, "road x a;", 5, 3);
        faultBehind(ALL, "round a a;", 6, 3);
        faultBehind(ALL, "round m l;", 8, 3);
        faultBehind(ALL, "clerk x m;", 6, 3);
        faultBehind(ALL, "clerk m x;", 8, 3);
        faultBehind(ALL, "post a l;", 5, 3);
        faultBehind(ALL, "post l m;", 7, 3);
        faultBehind(ALL, "repeal r 1 d;", 11, 3);
        faultBehind(ALL, "repeal r 1 r;", 11, 3);
        faultBehind(ALL, "repeal r 1 l;repeal q 1 r;", 24, 3);
        fault("deed d;repeal r 1 l;law l 1 d;", 18, 3);
    }

    private static void twoAndOnce() {
        fault(PLACES + "road a a;", 23, 3);
        faultBehind(PLACES + "road a b;", "road a b;", 7, 3);
        faultBehind(PLACES + "road a b;", "road b a;", 7, 3);
        faultBehind(ALL, "law k 1 d d;", 10, 3);
        faultBehind(ALL + "round m a;", "round m a;", 6, 3);
        faultBehind(ALL, "clerk m m;", 8, 3);
        faultBehind(ALL + "clerk m n;", "clerk m n;", 6, 3);
        faultBehind(ALL + "post l a;", "post l a;", 7, 3);
        fine(ALL + "post l a;post l b;round m a a;round n a;clerk n m;clerk m n;", 12);
    }

    private static void tooMany() {
        StringBuilder places = new StringBuilder();
        for (char c = 'a'; c <= 'j'; c++) {
            places.append("place ").append(c).append(';');
        }
        fine(places.toString(), 10);
        faultBehind(places.toString(), "place a;", 0, 4);
        faultBehind(places.toString(), "place 1;", 0, 4);
        StringBuilder roads = new StringBuilder(places);
        for (char c = 'b'; c <= 'j'; c++) {
            roads.append("road a ").append(c).append(';');
        }
        for (char c = 'c'; c <= 'i'; c++) {
            roads.append("road ").append(c).append(" b;");
        }
        fine(roads.toString(), 26);
        faultBehind(roads.toString(), "road j b;", 0, 4);
        String deeds = "deed a;deed b;deed c;deed d;deed e;";
        fine(deeds, 5);
        faultBehind(deeds, "deed f;", 0, 4);
        faultBehind(deeds, "law l 1 a b c d e a;", 18, 3);
        faultBehind(deeds, "law l 1 a b c d e f;", 18, 3);
        faultBehind(deeds, "law l 1 a b c d e 1;", 18, 1);
        String laws = deeds + "law l 1 a;law m 1 e d c b a;law n 1 a;law o 1 a;law p 1 a;";
        fine(laws + "repeal r 1 l;", 11);
        faultBehind(laws + "repeal r 1 l;", "repeal s 1 l;", 0, 4);
        faultBehind(laws + "law r 1 a;", "law s 1 a;", 0, 4);
        String men = "place x;man a x 1;man b x 1;man c x 1;man d x 1;man e x 1;man f x 1;";
        fine(men, 7);
        faultBehind(men, "man g x 1;", 0, 4);
        fine(ALL + "round m a b a b a b a b;", 7);
        faultBehind(ALL, "round m a b a b a b a b a;", 24, 4);
        faultBehind(ALL, "round m a b a b a b a b x;", 24, 3);
        faultBehind(ALL, "round m a b a b a b a b in;", 24, 1);
    }

    private static void length() {
        fine("place a;" + Check.times(" ", 892), 1);
        fault("place a;" + Check.times(" ", 893), 900, 1);
        fault("place a;" + Check.times(" ", 932), 900, 1);
        fault("place a" + Check.times(" ", 893), 900, 1);
        fault("place a" + Check.times(" ", 933), 900, 1);
        fault("place a;" + Check.times(" ", 891) + "place b;", 900, 1);
        fault("place a;" + Check.times(" ", 891) + "place2 b;", 899, 1);
        fault("place a;" + Check.times(" ", 891) + "placeabc;", 899, 1);
        fault("place a;" + Check.times(" ", 892) + "X", 900, 1);
        fault("place a;" + Check.times(" ", 887) + "place a;", 900, 1);
        fault("place a;" + Check.times(" ", 886) + "place a;", 900, 1);
        fault("place a;" + Check.times(" ", 885) + "place a;", 899, 3);
        fault("place a;" + Check.times(" ", 891) + ";;", 899, 1);
        fault("place a;place a;" + Check.times(" ", 900), 14, 3);
        fault("place a;" + Check.times(" ", 885) + "place a;;", 899, 3);
        fine("place a;" + Check.times(" ", 884) + "place b;", 2);
    }

    private static void whatStays() {
        ReadBound x = Check.land(Check.LAND);
        x.days(3);
        Check.sentenceOf(x, "free");
        Check.due("fault", Check.landOf(x, "place x"), -8);
        Check.due("LAND stays", x.count(0), 4);
        Check.due("DAY stays", x.now(0), 3);
        Check.due("SENTENCE stays", x.said(-1), 3);
        Check.due("undo stays", x.undo(), 0);
        Check.due("fault told", x.fault(), 1);
        x.days(2);
        x.wear(0, 1);
        Check.due("new LAND", Check.landOf(x, "place x;man m x 1;"), 2);
        Check.due("fault told", x.fault(), 0);
        Check.due("PLACES", x.count(0), 1);
        Check.due("roads", x.count(1), 0);
        Check.due("DAY", x.now(0), 0);
        Check.due("blinkers", x.now(3), 0);
        Check.due("no SENTENCE", x.said(-1), ReadBound.NONE);
        Check.due("nothing to undo", x.undo(), ReadBound.NONE);
        Check.due("the tape is empty", x.count(5), 0);
        Check.due("an empty LAND", x.land(), 0);
        Check.due("PLACES", x.count(0), 0);
        Check.diaryOf(x, "day 0;", 0);
        Check.due("fault of a diary", x.fault(), 2);
        x.diary(7);
        Check.due("diary(7) leaves it", x.fault(), 2);
        x.diary(0);
        Check.due("none", x.fault(), 0);
        x.sentence();
        Check.due("fault of a sentence", x.fault(), 1);
    }
}
