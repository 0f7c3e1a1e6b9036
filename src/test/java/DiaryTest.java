/** Promises 37 and 38: DIARIES. */
public final class DiaryTest {
    private static final int NONE = ReadBound.NONE;

    public static void main(String[] args) {
        faults();
        length();
        why();
        judged();
        lived();
        told();
        Check.end();
    }

    private static void fault(String text, int at, int kind) {
        ReadBound x = Check.land(Check.LAND);
        Check.diaryOf(x, "day 2;", 0);
        Check.due("diary of '" + text + "'", Check.diaryOf(x, text, 1), -2 - at);
        Check.due("fault of '" + text + "'", x.fault(), kind);
        Check.due("tape behind it", x.count(5), 0);
        Check.due("nothing is lived", x.now(0), 0);
        Check.due("nothing to undo", x.undo(), NONE);
        Check.due("told of the one ahead", x.told(2), 2);
    }

    private static void fine(String text) {
        ReadBound x = Check.land(Check.LAND);
        Check.due("diary of '" + text + "'", Check.diaryOf(x, text, 0), NONE);
        Check.due("fault of '" + text + "'", x.fault(), 0);
        Check.due("tape behind it", x.count(5), 0);
    }

    private static void faults() {
        fault("day", 3, 1);
        fault("day 1", 5, 1);
        fault("day 1 1;", 6, 1);
        fault("day x;", 4, 1);
        fault("day 0;", 4, 2);
        fault("day 61;", 4, 2);
        fault("day 100;", 4, 1);
        fault(";", 0, 1);
        fault("1;", 0, 1);
        fault("place a;", 0, 1);
        fault("goes a;", 0, 1);
        fault("nobody wears;", 0, 3);
        fault("a wears;", 0, 3);
        fault("tax wears;", 0, 3);
        fault("joe;", 3, 1);
        fault("joe a;", 4, 1);
        fault("joe posts a;", 4, 1);
        fault("joe day 1;", 4, 1);
        fault("joe goes;", 8, 1);
        fault("joe goes joe;", 9, 3);
        fault("joe goes beg;", 9, 3);
        fault("joe goes day;", 9, 1);
        fault("joe does a;", 9, 3);
        fault("joe does z;", 9, 3);
        fault("joe wears a;", 10, 1);
        fault("posts a a;", 6, 3);
        fault("posts tax;", 9, 1);
        fault("posts tax tax;", 10, 3);
        fault("rains joe;", 6, 3);
        fault("rains;", 5, 1);
        fault("rains a b;", 8, 1);
        fault("day 1;joe goes b;ida", 20, 1);
        fault("day 1;day 0;joe", 10, 2);
    }

    private static void length() {
        fine("");
        fine("day 1;\nposts calm b ; rains c;joe goes\nc;ida does sing;duke wears;duke bares;ida fevers;");
        fine(Check.times("day 1;", 40));
        fault(Check.times("day 1;", 41), 240, 4);
        fault(Check.times("day 1;", 40) + "joe wears;", 240, 4);
        fault(Check.times("day 1;", 40) + "x wears;", 240, 3);
        fault(Check.times("day 1;", 40) + "place a;", 240, 1);
        fault(Check.times("day 1;", 40) + "day 0;", 240, 4);
        fine("day 1;" + Check.times(" ", 394));
        fault("day 1;" + Check.times(" ", 395), 400, 1);
        fault("day 1;" + Check.times(" ", 393) + "day 1;", 400, 1);
        fault("day 1;" + Check.times(" ", 393) + "nobody wears;", 399, 3);
        fault("day 1" + Check.times(" ", 400), 400, 1);
        fault("day 1;" + Check.times(" ", 900), 400, 1);
        fault(Check.times("day 1;", 40) + Check.times(" ", 160) + "day 1;", 400, 1);
        fault(Check.times("day 1;", 40) + Check.times(" ", 159) + "day 1;", 399, 4);
    }

    private static void wrong(String text, int line, int why) {
        ReadBound x = Check.land(Check.LAND);
        for (int lives = 0; lives <= 1; lives++) {
            Check.due("diary of '" + text + "'", Check.diaryOf(x, text, lives), line);
            Check.due("why", x.told(0), why);
            Check.due("LINES", x.told(1), line);
        }
    }

    private static void why() {
        wrong("joe goes c;", 0, 2);
        wrong("joe goes b;joe goes a;", 1, 1);
        wrong("day 2;joe does sing;joe does beg;day 1;", 2, 11);
        wrong("duke wears;duke wears;", 1, 21);
        wrong("joe bares;", 0, 31);
        wrong("joe fevers;", 0, 41);
        wrong("posts calm c;posts hush c;", 1, 51);
        wrong("rains b;rains b;", 1, 61);
        wrong("day 60;day 60;day 60;day 60;day 60;day 60;day 41;", 6, 71);
        fine("day 60;day 60;day 60;day 60;day 60;day 60;day 40;");
    }

    private static void judged() {
        ReadBound x = Check.land(Check.LAND);
        Check.due("judged", Check.diaryOf(x, "posts tax d;rains b;day 2;joe does sing;joe goes d;ida does beg;day 1;", 0), 5);
        Check.due("why", x.told(0), 11);
        Check.due("LINES that are not", x.told(1), 5);
        Check.due("the DAY then", x.told(2), 2);
        Check.due("free then", x.told(3), 0);
        Check.due("DAY", x.now(0), 0);
        Check.due("posts", x.now(1), 3);
        Check.due("DEEDS", x.now(2), 0);
        Check.due("rains", x.now(4), 0);
        Check.due("words", x.words(1, 0), 0);
        Check.due("PLACE", x.man(0, 0), 0);
        Check.due("nothing to undo", x.undo(), NONE);
    }

    private static void lived() {
        ReadBound x = Check.land(Check.LAND);
        Check.due("lived", Check.diaryOf(x, "posts tax d;rains b;day 2;joe does sing;joe goes d;ida does beg;day 1;", 1), 5);
        Check.due("why", x.told(0), 11);
        Check.due("DAY", x.now(0), 2);
        Check.due("posts", x.now(1), 3);
        Check.due("DEEDS", x.now(2), 1);
        Check.due("rains", x.now(4), 1);
        Check.due("words", x.words(1, 0), 4);
        Check.due("PLACE", x.man(0, 0), 3);
        Check.due("free", x.now(5), 0);
        Check.due("one act", x.undo(), 0);
        Check.due("DAY", x.now(0), 0);
        Check.due("none is WRONG", Check.diaryOf(x, "duke wears;day 3;duke bares;", 1), NONE);
        Check.due("why", x.told(0), 0);
        Check.due("LINES", x.told(1), 3);
        Check.due("the DAY then", x.told(2), 3);
        Check.due("free then", x.told(3), 7);
    }

    private static void told() {
        ReadBound x = Check.land(Check.LAND);
        for (int what = -1; what <= 4; what++) {
            Check.due("ahead of any", x.told(what), NONE);
        }
        Check.diaryOf(x, "day 0;", 0);
        Check.due("a FAULT is none", x.told(0), NONE);
        for (int bad : new int[] {-1, 2, Integer.MAX_VALUE, Integer.MIN_VALUE}) {
            Check.tape(x, "day 9;");
            Check.due("another lives", x.diary(bad), -1000);
            Check.due("the tape stays", x.count(5), 6);
            Check.due("fault stays", x.fault(), 2);
            Check.due("told nothing", x.told(0), NONE);
            x.end(0);
        }
        x.diary(0);
        Check.due("an empty one", x.told(0) + x.told(1) + x.told(2), 0);
        Check.due("free", x.told(3), 7);
        for (int bad : new int[] {-1, 4, Integer.MAX_VALUE, Integer.MIN_VALUE}) {
            Check.due("told", x.told(bad), NONE);
        }
    }
}
