/** Promises 18 to 24: words, STATES, and who is bound by what. */
public final class BoundTest {
    public static void main(String[] args) {
        words();
        clerks();
        states();
        binds();
        repeals();
        forgets();
        noSuchOnes();
        Check.end();
    }

    private static void words() {
        ReadBound x = Check.land("place a;place b;road a b;deed d;law l 7 d;law k 2 d;man m a 3;man n b 0;post l a;post k a;post l b;");
        Check.due("at the beginning", x.words(0, 0), 3);
        Check.due("LENGTH at most", x.words(0, 1), 2);
        Check.due("SIGHT 0", x.words(1, 0), 0);
        Check.due("not posted there", x.words(1, 1), 0);
        x.go(0, 1);
        Check.due("more", x.words(0, 0), 6);
        x.days(1);
        x.go(0, 0);
        Check.due("no more than LENGTH", x.words(0, 0), 7);
    }

    private static void clerks() {
        // m reads for n, n for o: what m reads is not handed on to o
        ReadBound x = Check.land("place a;place b;deed d;law l 9 d;man m a 4;man n b 1;man o b 1;clerk m n;clerk n o;post l a;");
        Check.due("the clerk", x.words(0, 0), 4);
        Check.due("his master", x.words(1, 0), 4);
        Check.due("the master's master", x.words(2, 0), 0);
        x.post(0, 1);
        Check.due("the master reads more", x.words(1, 0), 5);
        Check.due("and hands it on, o reads 1 more", x.words(2, 0), 6);
        x.wear(0, 1);
        x.wear(0, 0);
        Check.due("the clerk has more", x.words(0, 0) * 10 + x.words(1, 0), 88);
        x.wear(1, 1);
        x.wear(0, 1);
        x.wear(0, 0);
        Check.due("a master's blinkers do not matter", x.words(1, 0), 9);
        // he who has more keeps it, and it is read for him on that DAY
        ReadBound y = Check.land("place a;place b;deed d;law l 9 d;man m a 1;man n b 5;clerk m n;post l b;");
        y.days(4);
        y.post(0, 0);
        Check.due("he had more", y.words(1, 0), 5);
        Check.due("read for him today", y.forgets(1, 0), 10);
        // at the beginning by numbers
        ReadBound z = Check.land("place a;deed d;law l 9 d;man m a 1;man n a 3;clerk n m;post l a;");
        Check.due("1, then his clerk's 3", z.words(0, 0), 3);
        ReadBound w = Check.land("place a;deed d;law l 9 d;man n a 3;man m a 1;clerk n m;post l a;");
        Check.due("his clerk's 3, then 1 more", w.words(1, 0), 4);
    }

    private static void states() {
        ReadBound x = Check.land("place a;deed d;law l 5 d;law k 6 d;law i 1 d;repeal r 4 l;man m a 2;man n a 3;man o a 9;man p a 0;"
                + "post l a;post k a;post i a;post r a;");
        int[][] due = {{0, 0, 2, 1}, {1, 1, 2, 1}, {2, 2, 2, 2}, {0, 0, 0, 0}};
        for (int m = 0; m < 4; m++) {
            for (int l = 0; l < 4; l++) {
                Check.due("state(" + m + ", " + l + ")", x.state(m, l), due[m][l]);
            }
        }
    }

    private static void binds() {
        ReadBound x = Check.land("place a;place b;deed d;deed e;deed f;law l 4 d;law k 2 e f;man m a 2;man n a 9;man o b 1;post l a;post k a;");
        Check.due("half and all, even DAY", x.binds(0), 3);
        Check.due("all", x.binds(1), 3);
        Check.due("none", x.binds(2), 0);
        Check.due("barred", x.barred(0), 7);
        Check.due("barred", x.barred(2), 0);
        Check.due("bound by l", x.bound(0), 3);
        Check.due("free", x.now(5), 4);
        x.days(1);
        Check.due("half, odd DAY", x.binds(0), 2);
        Check.due("all, odd DAY", x.binds(1), 3);
        Check.due("barred", x.barred(0), 6);
        Check.due("bound by l", x.bound(0), 2);
        Check.due("bound by k", x.bound(1), 3);
        Check.due("lifted", x.lifted(1), 0);
        x.fever(0);
        Check.due("after a fever", x.binds(0) + x.barred(0), 0);
        Check.due("bound by k", x.bound(1), 2);
    }

    private static void repeals() {
        ReadBound x = Check.land("place a;place b;road a b;deed d;law l 4 d;law k 4 d;repeal r 6 l;repeal q 2 l;man m a 4;man n b 2;"
                + "post l a;post k a;post r b;");
        Check.due("bound", x.binds(0), 3);
        x.go(0, 1);
        Check.due("half a repeal lifts nothing", x.binds(0), 3);
        Check.due("lifted", x.lifted(0), 0);
        Check.due("state of a repeal", x.state(0, 2), 1);
        x.days(1);
        x.go(0, 0);
        x.days(1);
        x.go(0, 1);
        Check.due("all of the repeal", x.words(0, 2), 6);
        Check.due("one does not bind", x.binds(0), 2);
        Check.due("lifted", x.lifted(0), 1);
        Check.due("barred by the other", x.barred(0), 1);
        Check.due("a repeal binds nobody", x.bound(2), 0);
        Check.due("bound by l", x.bound(0), 0);
        Check.due("bound by k", x.bound(1), 1);
        Check.due("act", x.act(0, 0), 1);
        x.post(3, 1);
        Check.due("the other repeal, too", x.words(1, 3), 2);
        x.post(0, 1);
        Check.due("half of a LAW that is repealed", x.state(1, 0), 1);
        Check.due("does not bind", x.binds(1), 0);
        Check.due("is not lifted", x.lifted(1), 0);
        Check.due("free", x.now(5), 2);
        Check.due("may", x.act(1, 0), 0);
        x.days(6);
        Check.due("LAW read on DAY 1, repeal on DAY 2", x.forgets(0, 1) * 100 + x.forgets(0, 2), 304);
    }

    private static void forgets() {
        ReadBound x = Check.land("place a;place b;road a b;deed d;law l 4 d;law k 4 d;man m a 1;man n b 0;post l a;");
        Check.due("read today", x.forgets(0, 0), 10);
        Check.due("no words", x.forgets(0, 1), ReadBound.NONE);
        Check.due("SIGHT 0", x.forgets(1, 0), ReadBound.NONE);
        for (int left = 9; left >= 1; left--) {
            x.days(1);
            Check.due("forgets", x.forgets(0, 0), left);
            Check.due("words", x.words(0, 0), 1);
        }
        x.days(1);
        Check.due("forgotten", x.words(0, 0), 0);
        Check.due("no words", x.forgets(0, 0), ReadBound.NONE);
        x.wear(0, 1);
        x.wear(0, 0);
        x.days(9);
        x.wear(0, 1);
        x.wear(0, 0);
        Check.due("read again on the last DAY", x.forgets(0, 0), 10);
        Check.due("words", x.words(0, 0), 2);
        x.fever(0);
        Check.due("fever", x.forgets(0, 0), ReadBound.NONE);
    }

    private static void noSuchOnes() {
        ReadBound x = Check.land(Check.LAND);
        int[] bad = {-1, 3, 9, Integer.MAX_VALUE, Integer.MIN_VALUE};
        for (int b : bad) {
            Check.due("words", x.words(b, 0), ReadBound.NONE);
            Check.due("words", x.words(0, b), ReadBound.NONE);
            Check.due("state", x.state(b, 0), ReadBound.NONE);
            Check.due("state", x.state(0, b), ReadBound.NONE);
            Check.due("binds", x.binds(b), ReadBound.NONE);
            Check.due("barred", x.barred(b), ReadBound.NONE);
            Check.due("lifted", x.lifted(b), ReadBound.NONE);
            Check.due("bound", x.bound(b), ReadBound.NONE);
            Check.due("forgets", x.forgets(b, 2), ReadBound.NONE);
            Check.due("forgets", x.forgets(1, b), ReadBound.NONE);
        }
        Check.due("there are such ones", x.forgets(1, 2), 10);
    }
}
