/** Promises 25 to 30: WAYS, BOARDS and POSTS. */
public final class WayTest {
    private static final int NONE = ReadBound.NONE;
    /** Two ways from a to f, b c and d e, and a long one by g h i; j alone. */
    private static final String TOWN = "place a;place b;place c;place d;place e;place f;place g;place h;place i;place j;"
            + "road a d;road d e;road e f;road a b;road b c;road c f;road a g;road g h;road h i;road i f;"
            + "deed z;law l 4 z;law k 4 z;repeal r 4 l;man m a 0;man n f 4;man o j 9;";

    public static void main(String[] args) {
        way();
        least();
        meets();
        boards();
        posts();
        wide();
        Check.end();
    }

    private static void route(ReadBound x, int... steps) {
        for (int i = 0; i < steps.length; i++) {
            Check.due("step " + i, x.step(i), steps[i]);
        }
        Check.due("no step more", x.step(steps.length), NONE);
        Check.due("step -1", x.step(-1), NONE);
        Check.due("step max", x.step(Integer.MAX_VALUE), NONE);
        Check.due("step min", x.step(Integer.MIN_VALUE), NONE);
    }

    private static void way() {
        ReadBound x = Check.land(TOWN);
        route(x);
        Check.due("no way", x.way(0, 9, 0), NONE);
        route(x);
        Check.due("way", x.way(0, 5, 0), 3);
        route(x, 1, 2, 5);
        x.post(0, 2);
        Check.due("without l", x.way(0, 5, 1), 3);
        route(x, 3, 4, 5);
        Check.due("without k", x.way(0, 5, 2), 3);
        route(x, 1, 2, 5);
        x.post(2, 3);
        Check.due("without l and r", x.way(0, 5, 5), 4);
        route(x, 6, 7, 8, 5);
        Check.due("without k and r", x.way(0, 5, 6), 3);
        x.post(1, 0);
        Check.due("the first one does not count", x.way(0, 5, 2), 3);
        Check.due("where he is", x.way(0, 0, 2), 0);
        route(x);
        x.way(0, 1, 0);
        x.post(1, 5);
        Check.due("the last one counts", x.way(0, 5, 2), NONE);
        route(x, 1);
        Check.due("the other way round", x.way(1, 0, 0), 3);
        route(x, 2, 1, 0);
        Check.due("no road at all", x.way(2, 0, 0), NONE);
        for (int bad : new int[] {-1, 10, Integer.MAX_VALUE, Integer.MIN_VALUE}) {
            Check.due("way", x.way(bad, 0, 0), NONE);
            Check.due("way", x.way(0, bad, 0), NONE);
        }
        for (int bad : new int[] {-1, 8, 9, 64, Integer.MAX_VALUE, Integer.MIN_VALUE}) {
            Check.due("way", x.way(0, 0, bad), NONE);
        }
        Check.due("way", x.way(3, 0, 0), NONE);
        route(x, 2, 1, 0);
        Check.due("all sets are such ones", x.way(0, 6, 7), 1);
        x.meets(0, 5);
        x.land();
        route(x, 6);
    }

    private static void least() {
        // the least first step leads to a greater second one
        ReadBound x = Check.land("place a;place b;place c;place d;place e;place f;road a b;road a c;road b e;road c d;road e f;road d f;man m a 1;");
        Check.due("way", x.way(0, 5, 0), 3);
        route(x, 1, 4, 5);
        // the greatest place first, as it alone leads there
        ReadBound y = Check.land("place a;place b;place c;place d;road d c;road c b;road a b;road a d;man m a 1;man n d 1;");
        Check.due("way", y.way(0, 2, 0), 2);
        route(y, 1, 2);
        Check.due("way", y.way(1, 1, 0), 2);
        route(y, 0, 1);
        ReadBound z = Check.land("place a;place b;place c;place d;place e;place f;place g;place h;place i;place j;"
                + "road a b;road b c;road c d;road d e;road e f;road f g;road g h;road h i;road i j;man m a 1;");
        Check.due("the longest", z.way(0, 9, 0), 9);
        route(z, 1, 2, 3, 4, 5, 6, 7, 8, 9);
    }

    private static void meets() {
        ReadBound x = Check.land(TOWN);
        x.post(0, 0);
        x.post(1, 1);
        x.post(2, 5);
        x.post(0, 4);
        Check.due("by b c f, SIGHT 0", x.meets(0, 5), 6);
        x.wear(0, 1);
        Check.due("with blinkers", x.meets(0, 5), 6);
        Check.due("where he is", x.meets(0, 0), 0);
        Check.due("from f, of r he has all", x.meets(1, 0), 3);
        Check.due("to e", x.meets(1, 4), 1);
        x.go(1, 4);
        Check.due("back: r he has", x.meets(1, 5), 0);
        Check.due("no WAY", x.meets(2, 0), NONE);
        Check.due("to himself", x.meets(2, 9), 0);
        for (int bad : new int[] {-1, 10, Integer.MAX_VALUE, Integer.MIN_VALUE}) {
            Check.due("meets", x.meets(bad, 0), NONE);
            Check.due("meets", x.meets(0, bad), NONE);
        }
        Check.due("meets", x.meets(3, 0), NONE);
        ReadBound y = Check.land("place a;place b;road a b;deed d;law l 4 d;man m a 2;post l b;");
        y.go(0, 1);
        y.days(1);
        y.go(0, 0);
        Check.due("half of it", y.meets(0, 1), 1);
        y.days(1);
        y.go(0, 1);
        y.days(1);
        y.go(0, 0);
        Check.due("all of it", y.meets(0, 1), 0);
    }

    private static void boards() {
        ReadBound x = Check.land(TOWN);
        Check.due("three ways: b, d, g", x.boards(0, 5, 0), 2 + 8 + 64);
        Check.due("the other way round", x.boards(5, 0, 0), 2 + 8 + 64);
        x.post(0, 2);
        Check.due("two ways are left", x.boards(0, 5, 0), 8 + 64);
        Check.due("for another LAW", x.boards(0, 5, 1), 2 + 8 + 64);
        Check.due("none between", x.boards(0, 9, 0), 0);
        Check.due("a road", x.boards(0, 1, 0), NONE);
        Check.due("at one end", x.boards(1, 2, 0), 0);
        Check.due("at the other", x.boards(2, 1, 0), 0);
        Check.due("alike", x.boards(2, 2, 0), NONE);
        Check.due("a repeal", x.boards(0, 2, 2), 2 + 32);
        Check.due("a to e", x.boards(0, 4, 2), 8 + 32);
        for (int bad : new int[] {-1, 10, Integer.MAX_VALUE, Integer.MIN_VALUE}) {
            Check.due("boards", x.boards(bad, 0, 0), NONE);
            Check.due("boards", x.boards(0, bad, 0), NONE);
            Check.due("boards", x.boards(0, 5, bad), NONE);
        }
        Check.due("boards", x.boards(0, 5, 3), NONE);
        // fewer beat less bits: one at the greatest place against two
        ReadBound y = Check.land("place a;place b;place c;place d;place e;road a b;road a c;road b e;road c e;road e d;deed z;law l 1 z;");
        Check.due("e alone", y.boards(0, 3, 0), 16);
        ReadBound z = Check.land("place a;place b;place c;place d;place e;road a e;road e b;deed z;law l 1 z;");
        Check.due("e alone", z.boards(0, 1, 0), 16);
    }

    private static void posts() {
        ReadBound x = Check.land("place a;place b;place c;place d;road a b;road b c;deed z;law l 4 z;law k 6 z;repeal r 9 l;"
                + "man m a 1;man n b 2;man o c 4;man p d 9;round m b a;round n c b;");
        Check.due("ahead of any", x.posted(), NONE);
        // at b: m reads on 4 DAYS, n 1 time at once and 3 times by his round; at d: p alone
        Check.due("one for l", x.posts(0, 1), 2);
        Check.due("m and n", x.posted(), 3);
        // at a: m at once and on 3 DAYS; at c: n by his round, o at once
        Check.due("two for l", x.posts(0, 2), 1 + 4);
        Check.due("m, n, o", x.posted(), 7);
        Check.due("three for l", x.posts(0, 3), 1 + 4 + 8);
        Check.due("all", x.posted(), 15);
        Check.due("one for r", x.posts(2, 1), 8);
        Check.due("p", x.posted(), 8);
        Check.due("all stays", x.now(1) + x.now(0), 0);
        Check.due("nothing to undo", x.undo(), NONE);
        for (int bad : new int[] {0, -1, 4, Integer.MAX_VALUE, Integer.MIN_VALUE}) {
            Check.due("posts", x.posts(0, bad), NONE);
        }
        for (int bad : new int[] {-1, 3, Integer.MAX_VALUE, Integer.MIN_VALUE}) {
            Check.due("posts", x.posts(bad, 1), NONE);
        }
        Check.due("stays", x.posted(), 8);
        ReadBound y = Check.land("place a;place b;deed z;law l 4 z;");
        Check.due("no MEN: the least", y.posts(0, 2), 3);
        Check.due("nobody", y.posted(), 0);
        Check.due("fewer PLACES", y.posts(0, 3), NONE);
        // 7 DAYS: read 8 times, at once and on each of 7 DAYS
        ReadBound z = Check.land("place a;deed z;law l 8 z;law k 9 z;man m a 1;round m a;");
        Check.due("l", z.posts(0, 1), 1);
        Check.due("all of 8", z.posted(), 1);
        Check.due("k", z.posts(1, 1), 1);
        Check.due("not of 9", z.posted(), 0);
        for (int i = 0; i < 7; i++) {
            z.days(60);
        }
        z.undo();
        z.days(36);
        Check.due("4 DAYS left", z.now(0), 396);
        z.posts(0, 1);
        Check.due("5 times alone", z.posted(), 0);
        ReadBound w = Check.land("place a;deed z;law l 5 z;law k 6 z;man m a 1;round m a;");
        for (int i = 0; i < 6; i++) {
            w.days(60);
        }
        w.days(36);
        w.posts(0, 1);
        Check.due("5 times", w.posted(), 1);
        w.posts(1, 1);
        Check.due("not 6 times", w.posted(), 0);
    }

    private static void wide() {
        // a LAW that is posted already, and is read by nobody by being posted there again
        ReadBound x = Check.land("place a;place b;deed z;law l 4 z;man m a 2;post l a;");
        Check.due("once more at a does nothing", x.posts(0, 1), 1);
        Check.due("nobody", x.posted(), 0);
        x.days(3);
        x.wear(0, 1);
        x.wear(0, 0);
        Check.due("all he has he keeps for 7 DAYS", x.posts(0, 1), 1);
        Check.due("m", x.posted(), 1);
        x.days(3);
        Check.due("7 DAYS from then it is forgotten", x.posts(0, 2), 3);
        Check.due("nobody", x.posted(), 0);
    }
}
