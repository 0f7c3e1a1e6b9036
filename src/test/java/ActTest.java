/** Promises 10 to 17: acts, DAYS, and undoing them. */
public final class ActTest {
    private static final int[] BAD = {-1, 9, Integer.MAX_VALUE, Integer.MIN_VALUE};

    public static void main(String[] args) {
        go();
        act();
        wear();
        fever();
        post();
        rain();
        days();
        rounds();
        undo();
        noSuchOnes();
        Check.end();
    }

    private static void go() {
        ReadBound x = Check.land(Check.LAND);
        Check.due("no road", x.go(0, 2), 2);
        Check.due("where he is", x.go(0, 0), 2);
        Check.due("he did not go", x.man(0, 4), 0);
        Check.due("goes", x.go(0, 1), 0);
        Check.due("he is there", x.man(0, 0), 1);
        Check.due("he went", x.man(0, 4), 1);
        Check.due("he reads there", x.words(0, 0), 2);
        Check.due("he went today, and there is a road", x.go(0, 0), 1);
        Check.due("he went today, and there is no road", x.go(0, 3), 1);
        x.days(1);
        Check.due("another DAY", x.man(0, 4), 0);
        Check.due("goes again", x.go(0, 2), 0);
        Check.due("reads", x.words(0, 1), 2);
        ReadBound y = Check.land(Check.LAND);
        y.wear(0, 1);
        Check.due("goes with blinkers", y.go(0, 1), 0);
        Check.due("reads nothing", y.words(0, 0), 0);
        Check.due("goes with SIGHT 0", y.go(2, 1), 0);
        Check.due("reads no words", y.words(2, 0), 0);
    }

    private static void act() {
        ReadBound x = Check.land("place a;deed d;deed e;law l 4 d;man m a 2;man n a 4;post l a;");
        Check.due("half, DAY 0", x.act(0, 0), 1);
        Check.due("all", x.act(1, 0), 1);
        Check.due("another DEED", x.act(1, 1), 0);
        Check.due("DEEDS", x.man(1, 5), 1);
        Check.due("none done", x.man(0, 5), 0);
        x.days(1);
        Check.due("half, DAY 1", x.act(0, 0), 0);
        Check.due("all, DAY 1", x.act(1, 0), 1);
        Check.due("all DEEDS", x.now(2), 2);
        for (int i = 0; i < 5; i++) {
            x.act(0, 1);
        }
        Check.due("many", x.man(0, 5), 6);
    }

    private static void wear() {
        ReadBound x = Check.land("place a;deed d;law l 9 d;man m a 2;man n a 3;post l a;");
        Check.due("bares, wearing none", x.wear(0, 0), 1);
        Check.due("reads nothing by it", x.words(0, 0), 2);
        Check.due("wears", x.wear(0, 1), 0);
        Check.due("wears twice", x.wear(0, 1), 1);
        Check.due("blinkers", x.man(0, 2), 1);
        Check.due("of one alone", x.now(3), 1);
        Check.due("bares", x.wear(0, 0), 0);
        Check.due("reads by it", x.words(0, 0), 4);
        Check.due("the other does not", x.words(1, 0), 3);
        Check.due("on 2", x.wear(0, 2), ReadBound.NONE);
        Check.due("on -1", x.wear(0, -1), ReadBound.NONE);
        for (int i = 0; i < 9; i++) {
            x.wear(0, 1);
            x.wear(0, 0);
        }
        Check.due("LENGTH at most", x.words(0, 0), 9);
    }

    private static void fever() {
        ReadBound x = Check.land("place a;deed d;law l 9 d;law k 3 d;man m a 2;man n a 3;clerk m n;post l a;post k a;");
        Check.due("fever", x.fever(0), 0);
        Check.due("no words", x.words(0, 0) + x.words(0, 1), 0);
        Check.due("the other keeps his", x.words(1, 0) * 10 + x.words(1, 1), 53);
        Check.due("he has none", x.fever(0), 1);
        x.wear(0, 1);
        x.wear(0, 0);
        Check.due("reads anew", x.words(0, 0), 2);
        Check.due("he for whom he reads had more", x.words(1, 0), 5);
        Check.due("fever again", x.fever(0), 0);
    }

    private static void post() {
        ReadBound x = Check.land("place a;place b;deed d;law l 9 d;law k 9 d;man m a 2;man n a 3;man o a 1;man p b 1;post k a;");
        x.wear(2, 1);
        Check.due("post", x.post(0, 0), 0);
        Check.due("they read it", x.words(0, 0) * 1000 + x.words(1, 0) * 100 + x.words(2, 0) * 10 + x.words(3, 0), 2300);
        Check.due("it alone", x.words(0, 1) * 10 + x.words(1, 1), 23);
        Check.due("it is there", x.post(0, 0), 1);
        Check.due("none reads then", x.words(0, 0), 2);
        Check.due("posts", x.now(1), 2);
        Check.due("elsewhere", x.post(0, 1), 0);
        ReadBound y = Check.land("place a;deed d;law l 9 d;man m a 2;man n a 3;clerk n m;");
        y.post(0, 0);
        Check.due("by numbers: first 2, then his clerk's 3", y.words(0, 0), 3);
        ReadBound z = Check.land("place a;deed d;law l 9 d;man n a 3;man m a 2;clerk n m;");
        z.post(0, 0);
        Check.due("by numbers: first his clerk's 3, then 2 more", z.words(1, 0), 5);
        ReadBound w = Check.land("place a;deed d;law l 9 d;repeal r 2 l;man m a 2;");
        Check.due("a repeal, too", w.post(1, 0), 0);
        Check.due("read", w.words(0, 1), 2);
    }

    private static void rain() {
        ReadBound x = Check.land(Check.LAND);
        Check.due("nothing there", x.rain(0), 1);
        Check.due("no rain so far", x.now(4), 0);
        x.post(2, 1);
        Check.due("rain", x.rain(1), 0);
        Check.due("all washed off", x.place(1, 1), 0);
        Check.due("elsewhere not", x.now(1), 2);
        Check.due("rains", x.now(4), 1);
        Check.due("nothing now", x.rain(1), 1);
        Check.due("words stay", x.words(1, 2), 3);
        x.rain(3);
        Check.due("rains", x.now(4), 2);
    }

    private static void days() {
        ReadBound x = Check.land("place a;deed d;law l 3 d;man m a 1;man n a 0;clerk m n;post l a;");
        for (int bad : new int[] {0, -1, 61, Integer.MAX_VALUE, Integer.MIN_VALUE}) {
            Check.due("days(" + bad + ")", x.days(bad), ReadBound.NONE);
        }
        Check.due("nine", x.days(9), 9);
        Check.due("DAY", x.now(0), 9);
        Check.due("known still", x.words(0, 0) * 10 + x.words(1, 0), 11);
        Check.due("one more", x.days(1), 1);
        Check.due("forgotten", x.words(0, 0) * 10 + x.words(1, 0), 0);
        x.wear(0, 1);
        x.wear(0, 0);
        x.days(5);
        x.wear(1, 1);
        x.wear(1, 0);
        x.days(5);
        Check.due("the clerk forgets", x.words(0, 0), 0);
        Check.due("he who looked at it again keeps it", x.words(1, 0), 1);
        Check.due("DAY", x.now(0), 20);
        for (int i = 0; i < 6; i++) {
            Check.due("sixty", x.days(60), 60);
        }
        Check.due("rest", x.days(60), 20);
        Check.due("DAY", x.now(0), 400);
        x.image(0);
        x.restore(0);
        Check.due("none left", x.days(1), 0);
        Check.due("that is no act", x.undo(), ReadBound.NONE);
        Check.due("an act on DAY 400", x.act(0, 0), 0);
    }

    private static void rounds() {
        ReadBound x = Check.land("place a;place b;place c;road a b;deed d;law l 9 d;law k 9 d;man m a 1;man n a 1;"
                + "round m b c b a a;post l a;post k b;");
        int[] places = {1, 1, 1, 0, 0, 1};
        int[] wordsOfK = {1, 1, 2, 2, 2, 3};
        int[] wordsOfL = {1, 1, 1, 2, 3, 3};
        for (int i = 0; i < 6; i++) {
            x.days(1);
            Check.due("DAY " + (i + 1) + ": PLACE", x.man(0, 0), places[i]);
            Check.due("DAY " + (i + 1) + ": words of k", x.words(0, 1), wordsOfK[i]);
            Check.due("DAY " + (i + 1) + ": words of l", x.words(0, 0), wordsOfL[i]);
            Check.due("no going of today", x.man(0, 4), 0);
            Check.due("he without a round stays", x.man(1, 0), 0);
            Check.due("and does not read", x.words(1, 0), 1);
        }
        Check.due("he may go besides", x.go(0, 0), 0);
        ReadBound y = Check.land("place a;place b;road a b;deed d;law l 9 d;man m a 2;man n a 3;clerk n m;round m b;round n b;post l b;");
        y.days(1);
        Check.due("by numbers: first 2, then his clerk's 3", y.words(0, 0), 3);
        y.days(1);
        Check.due("3 and 2, then his clerk's 6", y.words(0, 0), 6);
        y.wear(0, 1);
        y.wear(1, 1);
        y.days(1);
        Check.due("blinkers", y.words(0, 0) * 10 + y.words(1, 0), 66);
    }

    private static void undo() {
        ReadBound x = Check.land(Check.LAND);
        Check.due("none", x.undo(), ReadBound.NONE);
        x.go(0, 2);
        x.rain(0);
        x.wear(0, 0);
        x.days(0);
        x.drawn(0, 1);
        x.fever(9);
        Check.due("none was done", x.undo(), ReadBound.NONE);
        x.go(0, 1);
        x.act(0, 1);
        x.wear(0, 1);
        x.post(0, 0);
        x.rain(3);
        x.fever(1);
        x.days(3);
        x.drawn(2, 77);
        Check.due("drawn", x.undo(), 7);
        Check.due("DAY", x.now(0), 3);
        Check.due("days", x.undo(), 6);
        Check.due("DAY", x.now(0), 0);
        Check.due("PLACE", x.man(0, 0), 1);
        Check.due("went", x.man(0, 4), 1);
        Check.due("fever", x.undo(), 5);
        Check.due("words", x.words(1, 2), 3);
        Check.due("rain", x.undo(), 4);
        Check.due("rains", x.now(4), 0);
        Check.due("posts", x.now(1), 4);
        Check.due("post", x.undo(), 3);
        Check.due("posts", x.now(1), 3);
        Check.due("wear", x.undo(), 2);
        Check.due("blinkers", x.now(3), 0);
        Check.due("act", x.undo(), 1);
        Check.due("DEEDS", x.now(2), 0);
        Check.due("go", x.undo(), 0);
        Check.due("PLACE", x.man(0, 0), 0);
        Check.due("went", x.man(0, 4), 0);
        Check.due("words", x.words(0, 0), 0);
        Check.due("none", x.undo(), ReadBound.NONE);
        for (int i = 0; i < 11; i++) {
            x.act(0, 0);
        }
        for (int left = 7; left >= 0; left--) {
            Check.due("undo", x.undo(), left);
        }
        Check.due("eight are kept", x.undo(), ReadBound.NONE);
        Check.due("three stay", x.man(0, 5), 3);
        x.act(0, 0);
        Check.due("one more", x.undo(), 0);
        Check.due("three stay", x.man(0, 5), 3);
        x.days(4);
        Check.due("a round goes back, too", x.undo(), 0);
        x.days(1);
        Check.due("to its first PLACE", x.man(0, 0), 1);
        diaries();
    }

    private static void diaries() {
        ReadBound x = Check.land(Check.LAND);
        Check.diaryOf(x, "day 2;", 0);
        Check.due("a judged DIARY is no act", x.undo(), ReadBound.NONE);
        Check.diaryOf(x, "day 2;joe does beg;", 1);
        Check.due("DAY", x.now(0), 2);
        Check.due("a lived one is one act", x.undo(), 0);
        Check.due("DAY", x.now(0), 0);
        Check.diaryOf(x, "day 2;joe;", 1);
        Check.due("a FAULT is none", x.undo(), ReadBound.NONE);
        Check.diaryOf(x, "ida wears;ida wears;", 1);
        Check.due("lived in part", x.now(3), 2);
        Check.sentenceOf(x, "free");
        Check.due("undone", x.undo(), 0);
        Check.due("blinkers", x.now(3), 0);
        Check.due("a SENTENCE is no act", x.said(-1), 3);
    }

    private static void noSuchOnes() {
        ReadBound x = Check.land(Check.LAND);
        x.act(0, 0);
        for (int bad : BAD) {
            Check.due("go", x.go(bad, 1), ReadBound.NONE);
            Check.due("go", x.go(0, bad), ReadBound.NONE);
            Check.due("act", x.act(bad, 0), ReadBound.NONE);
            Check.due("act", x.act(0, bad), ReadBound.NONE);
            Check.due("wear", x.wear(bad, 1), ReadBound.NONE);
            Check.due("wear", x.wear(0, bad), ReadBound.NONE);
            Check.due("fever", x.fever(bad), ReadBound.NONE);
            Check.due("post", x.post(bad, 0), ReadBound.NONE);
            Check.due("post", x.post(0, bad), ReadBound.NONE);
            Check.due("rain", x.rain(bad), ReadBound.NONE);
        }
        for (int next : new int[] {3, 4}) {
            Check.due("go", x.go(next, 1), ReadBound.NONE);
            Check.due("post", x.post(next, 1), ReadBound.NONE);
            Check.due("fever", x.fever(next), ReadBound.NONE);
        }
        Check.due("act", x.act(0, 2), ReadBound.NONE);
        Check.due("rain", x.rain(4), ReadBound.NONE);
        Check.due("go", x.go(0, 4), ReadBound.NONE);
        Check.due("one act alone was done", x.undo(), 0);
    }
}
