/** The edges of promises 18 to 43: each sentence of theirs that names one. */
public final class EdgeAnswersTest {
    private static final int NONE = ReadBound.NONE;
    private static final int[] FAR = {-2, 1000, Integer.MAX_VALUE, Integer.MIN_VALUE};
    /** a b c d in a ring, b c by two ways; e alone. */
    private static final String RING = "place a;place b;place c;place d;place e;road a b;road b c;road c d;road d a;"
            + "deed z;law l 4 z;law k 4 z;repeal r 4 l;man m a 1;man n c 4;man o e 0;";

    public static void main(String[] args) {
        words();
        state();
        binds();
        barred();
        lifted();
        liftedNone();
        bound();
        forgets();
        forgetsNone();
        way();
        wayNone();
        step();
        stepOfLatest();
        stepNone();
        meets();
        meetsNone();
        boardsNone();
        boardsNeeded();
        posts();
        postsNone();
        posted();
        reads();
        readsNone();
        surely();
        when();
        whenInDays();
        whenNone();
        whenNow();
        clerks();
        clerksNone();
        drawn();
        drawnNone();
        odds();
        oddsNone();
        diaryJudged();
        diaryLived();
        diaryWrong();
        diaryFault();
        diaryOtherLives();
        toldOfLatest();
        toldWhy();
        toldLines();
        toldThen();
        toldNone();
        sentence();
        sentenceFault();
        said();
        saidNone();
        image();
        imageNone();
        restore();
        restoreStays();
        restoreUndo();
        restoreNone();
        count();
        countNone();
        Check.end();
    }

    private static void pass(ReadBound x, int days) {
        for (int left = days; left > 0; left -= 60) {
            x.days(Math.min(left, 60));
        }
    }

    // ---- 18 to 24

    private static void words() {
        Check.edge(18, "Words that a MAN has of a LAW; NONE: no such ones.");
        ReadBound x = Check.land("place a;deed d;law l 9 d;repeal r 2 l;man m a 0;man n a 3;post l a;post r a;");
        Check.due("no words", x.words(0, 0), 0);
        Check.due("the last ones", x.words(1, 1), 2);
        Check.due("one MAN more", x.words(2, 0), NONE);
        Check.due("one MAN less", x.words(-1, 0), NONE);
        Check.due("one LAW more", x.words(1, 2), NONE);
        Check.due("one LAW less", x.words(1, -1), NONE);
        for (int bad : FAR) {
            Check.due("words", x.words(bad, 0), NONE);
            Check.due("words", x.words(1, bad), NONE);
        }
    }

    private static void state() {
        Check.edge(19, "STATE of a LAW for a MAN; NONE: no such ones.");
        ReadBound x = Check.land("place a;deed d;law l 9 d;repeal r 2 l;man m a 0;man n a 5;post l a;post r a;");
        Check.due("nothing", x.state(0, 0), 0);
        Check.due("half, though the repeal keeps it from binding", x.state(1, 0), 1);
        Check.due("the last ones", x.state(1, 1), 2);
        x.days(1);
        Check.due("half on an odd DAY", x.state(1, 0), 1);
        Check.due("one MAN more", x.state(2, 0), NONE);
        Check.due("one MAN less", x.state(-1, 0), NONE);
        Check.due("one LAW more", x.state(1, 2), NONE);
        Check.due("one LAW less", x.state(1, -1), NONE);
        for (int bad : FAR) {
            Check.due("state", x.state(bad, 0), NONE);
            Check.due("state", x.state(1, bad), NONE);
        }
    }

    private static void binds() {
        Check.edge(20, "LAWS that bind a MAN now, as bits; NONE: no such one.");
        ReadBound x = Check.land("place a;deed d;law t 1 d;law u 1 d;law v 1 d;law w 1 d;law x 1 d;law y 1 d;man m a 0;man n a 1;"
                + "post t a;post u a;post v a;post w a;post x a;post y a;");
        Check.due("none", x.binds(0), 0);
        Check.due("all six", x.binds(1), 63);
        Check.due("one MAN more", x.binds(2), NONE);
        Check.due("one MAN less", x.binds(-1), NONE);
        for (int bad : FAR) {
            Check.due("binds", x.binds(bad), NONE);
        }
    }

    private static void barred() {
        Check.edge(21, "DEEDS that a MAN may not do now, as bits; NONE: no such one.");
        ReadBound x = Check.land("place a;deed p;deed q;deed r;deed s;deed t;law l 1 t;law k 1 p q r s;man m a 0;man n a 1;post l a;post k a;");
        Check.due("none", x.barred(0), 0);
        Check.due("all five", x.barred(1), 31);
        Check.due("one MAN more", x.barred(2), NONE);
        Check.due("one MAN less", x.barred(-1), NONE);
        for (int bad : FAR) {
            Check.due("barred", x.barred(bad), NONE);
        }
    }

    private static void lifted() {
        Check.edge(22, "LAWS that he has all of, but that a repeal keeps from binding him, as bits;");
        ReadBound x = Check.land("place a;place b;deed d;law l 4 d;repeal r 4 l;law k 4 d;man m a 4;man n a 3;man o b 4;post l a;post r a;post k a;");
        Check.due("all of both", x.lifted(0), 1);
        Check.due("half of both", x.lifted(1), 0);
        x.post(1, 1);
        Check.due("the repeal alone", x.lifted(2), 0);
        ReadBound y = Check.land("place a;deed d;law l 4 d;repeal r 2 l;man m a 2;post l a;post r a;");
        Check.due("half of the LAW, all of the repeal", y.lifted(0), 0);
        y.wear(0, 1);
        y.wear(0, 0);
        Check.due("all of the LAW, all of the repeal", y.lifted(0), 1);
        y.days(1);
        Check.due("on an odd DAY", y.lifted(0), 1);
    }

    private static void liftedNone() {
        Check.edge(22, "NONE: no such one.");
        ReadBound x = Check.land("place a;man m a 4;man n a 3;");
        Check.due("the last MAN", x.lifted(1), 0);
        Check.due("one MAN more", x.lifted(2), NONE);
        Check.due("one MAN less", x.lifted(-1), NONE);
        for (int bad : FAR) {
            Check.due("lifted", x.lifted(bad), NONE);
        }
    }

    private static void bound() {
        Check.edge(23, "MEN whom a LAW binds now, as bits; NONE: no such one.");
        ReadBound x = Check.land("place a;deed d;law l 2 d;repeal r 2 l;man m a 0;man n a 1;man o a 2;post l a;");
        Check.due("even DAY", x.bound(0), 6);
        x.days(1);
        Check.due("odd DAY", x.bound(0), 4);
        x.post(1, 0);
        Check.due("repealed", x.bound(0), 0);
        Check.due("a repeal, the last LAW", x.bound(1), 0);
        Check.due("one LAW more", x.bound(2), NONE);
        Check.due("one LAW less", x.bound(-1), NONE);
        for (int bad : FAR) {
            Check.due("bound", x.bound(bad), NONE);
        }
    }

    private static void forgets() {
        Check.edge(24, "In how many DAYS a MAN forgets a LAW, if he reads it no more (1: at the end of this one);");
        ReadBound x = Check.land("place a;deed d;law l 2 d;man m a 1;post l a;");
        for (int left = 10; left >= 1; left--) {
            Check.due("forgets", x.forgets(0, 0), left);
            x.days(1);
        }
        Check.due("forgotten", x.forgets(0, 0), NONE);
        x.wear(0, 1);
        x.wear(0, 0);
        Check.due("read anew", x.forgets(0, 0), 10);
        pass(x, 389);
        x.wear(0, 1);
        x.wear(0, 0);
        Check.due("on DAY 399, if there were as many", x.forgets(0, 0), 10);
    }

    private static void forgetsNone() {
        Check.edge(24, "NONE: he has no words of it, no such ones.");
        ReadBound x = Check.land("place a;deed d;law l 2 d;law k 2 d;man m a 0;man n a 1;post k a;");
        Check.due("the last ones", x.forgets(1, 1), 10);
        Check.due("not posted", x.forgets(1, 0), NONE);
        Check.due("SIGHT 0", x.forgets(0, 1), NONE);
        Check.due("one MAN more", x.forgets(2, 1), NONE);
        Check.due("one MAN less", x.forgets(-1, 1), NONE);
        Check.due("one LAW more", x.forgets(1, 2), NONE);
        Check.due("one LAW less", x.forgets(1, -1), NONE);
        for (int bad : FAR) {
            Check.due("forgets", x.forgets(bad, 1), NONE);
            Check.due("forgets", x.forgets(1, bad), NONE);
        }
        x.fever(1);
        Check.due("behind a fever", x.forgets(1, 1), NONE);
    }

    // ---- 25 to 30

    private static void way() {
        Check.edge(25, "WAY without some LAWS (bits) of a MAN to a PLACE: how many steps;");
        ReadBound x = Check.land(RING);
        Check.due("to where he is", x.way(0, 0, 7), 0);
        Check.due("one step", x.way(0, 3, 7), 1);
        Check.due("two steps", x.way(0, 2, 7), 2);
        x.post(2, 3);
        Check.due("without r: two steps by b", x.way(0, 2, 4), 2);
        x.post(0, 1);
        Check.due("without l: two steps by d", x.way(0, 2, 1), 2);
        Check.due("by d", x.step(0), 3);
        x.go(0, 1);
        Check.due("without r from b to a", x.way(0, 0, 4), 1);
        Check.due("from b to d without none", x.way(0, 3, 0), 2);
    }

    private static void wayNone() {
        Check.edge(25, "NONE: none, no such ones.");
        ReadBound x = Check.land(RING);
        Check.due("no road to e", x.way(0, 4, 0), NONE);
        Check.due("none from e", x.way(2, 0, 0), NONE);
        x.post(0, 1);
        x.post(1, 3);
        Check.due("none without l and k", x.way(0, 2, 3), NONE);
        Check.due("all LAWS", x.way(0, 0, 7), 0);
        Check.due("one LAW more", x.way(0, 0, 8), NONE);
        Check.due("one LAW more and others", x.way(0, 0, 15), NONE);
        Check.due("bits below 0", x.way(0, 0, -1), NONE);
        Check.due("one MAN more", x.way(3, 0, 0), NONE);
        Check.due("one MAN less", x.way(-1, 0, 0), NONE);
        Check.due("one PLACE more", x.way(0, 5, 0), NONE);
        Check.due("one PLACE less", x.way(0, -1, 0), NONE);
        for (int bad : FAR) {
            Check.due("way", x.way(bad, 0, 0), NONE);
            Check.due("way", x.way(0, bad, 0), NONE);
            Check.due("way", x.way(0, 0, bad), NONE);
        }
        ReadBound y = Check.land("place a;man m a 1;");
        Check.due("no LAWS, none of them", y.way(0, 0, 0), 0);
        Check.due("no LAWS, one of them", y.way(0, 0, 1), NONE);
    }

    private static void step() {
        Check.edge(26, "The i-th PLACE of it (that by which each is the least that may be; i from 0)");
        ReadBound x = Check.land(RING);
        x.way(0, 2, 0);
        Check.due("by b, not d", x.step(0), 1);
        Check.due("to c", x.step(1), 2);
        x.way(1, 0, 0);
        Check.due("from c by b", x.step(0), 1);
        Check.due("to a", x.step(1), 0);
        // the least first PLACE counts more than the second
        ReadBound y = Check.land("place a;place b;place c;place d;place e;place f;road a c;road c d;road d f;road a b;road b e;road e f;man m a 1;");
        Check.due("way", y.way(0, 5, 0), 3);
        Check.due("first b", y.step(0), 1);
        Check.due("then e", y.step(1), 4);
        Check.due("then f", y.step(2), 5);
        // of two behind the first the least
        ReadBound z = Check.land("place a;place b;place c;place d;place e;road a b;road b d;road b c;road d e;road c e;man m a 1;");
        z.way(0, 4, 0);
        Check.due("c, not d", z.step(1), 2);
    }

    private static void stepOfLatest() {
        Check.edge(26, "of the latest way() that was 0 or more;");
        ReadBound x = Check.land(RING);
        x.way(0, 2, 0);
        x.way(0, 4, 0);
        x.way(9, 0, 0);
        x.meets(1, 3);
        x.go(0, 3);
        x.days(3);
        Check.due("the latest that was", x.step(0), 1);
        Check.due("the latest that was", x.step(1), 2);
        x.way(0, 3, 0);
        Check.due("one of 0 steps", x.step(0), NONE);
        x.way(0, 2, 0);
        x.undo();
        x.land();
        Check.due("it stays", x.step(0), 2);
    }

    private static void stepNone() {
        Check.edge(26, "NONE: none such, or ahead of any.");
        ReadBound x = Check.land(RING);
        for (int i = -1; i <= 10; i++) {
            Check.due("ahead of any", x.step(i), NONE);
        }
        x.way(0, 4, 0);
        Check.due("ahead of any that was 0 or more", x.step(0), NONE);
        x.way(0, 2, 0);
        Check.due("the last one", x.step(1), 2);
        Check.due("one more", x.step(2), NONE);
        Check.due("one less", x.step(-1), NONE);
        for (int bad : FAR) {
            Check.due("step", x.step(bad), NONE);
        }
    }

    private static void meets() {
        Check.edge(27, "What LAWS he would read (some words more) by the WAY to a PLACE without none, as bits (blinkers of no matter, SIGHT, too);");
        ReadBound x = Check.land(RING + "post l a;post k b;post r c;post l d;");
        Check.due("by b and c, not where he is", x.meets(0, 2), 6);
        x.wear(0, 1);
        Check.due("with blinkers", x.meets(0, 2), 6);
        Check.due("to where he is", x.meets(0, 0), 0);
        Check.due("to d", x.meets(0, 3), 1);
        Check.due("n has all of r: by b", x.meets(1, 0), 3);
        x.go(1, 1);
        Check.due("n has all of k and r", x.meets(1, 2), 0);
        Check.due("n has all of k and r, not of l", x.meets(1, 0), 1);
        ReadBound y = Check.land("place a;place b;road a b;deed z;law l 4 z;man m a 0;man n b 3;post l b;");
        Check.due("SIGHT 0", y.meets(0, 1), 1);
        y.go(1, 0);
        Check.due("3 of 4 words: one more", y.meets(1, 1), 1);
        y.days(1);
        y.go(1, 1);
        y.days(1);
        y.go(1, 0);
        Check.due("4 of 4 words: none more", y.meets(1, 1), 0);
        y.fever(1);
        Check.due("no words: all again", y.meets(1, 1), 1);
    }

    private static void meetsNone() {
        Check.edge(27, "NONE: no WAY, no such ones.");
        ReadBound x = Check.land(RING);
        Check.due("no WAY", x.meets(0, 4), NONE);
        Check.due("no WAY", x.meets(2, 0), NONE);
        Check.due("the last ones", x.meets(2, 4), 0);
        Check.due("one MAN more", x.meets(3, 0), NONE);
        Check.due("one MAN less", x.meets(-1, 0), NONE);
        Check.due("one PLACE more", x.meets(0, 5), NONE);
        Check.due("one PLACE less", x.meets(0, -1), NONE);
        for (int bad : FAR) {
            Check.due("meets", x.meets(bad, 0), NONE);
            Check.due("meets", x.meets(0, bad), NONE);
        }
    }

    private static void boardsNone() {
        Check.edge(28, "NONE: none do, alike, no such ones.");
        ReadBound x = Check.land(RING);
        Check.due("a road: none do", x.boards(0, 1, 0), NONE);
        Check.due("a road: none do", x.boards(3, 0, 0), NONE);
        Check.due("alike", x.boards(0, 0, 0), NONE);
        x.post(0, 0);
        Check.due("alike, though it is posted there", x.boards(0, 0, 0), NONE);
        Check.due("of another LAW none do", x.boards(0, 1, 1), NONE);
        Check.due("the last ones", x.boards(4, 3, 2), 0);
        Check.due("one PLACE more", x.boards(5, 0, 0), NONE);
        Check.due("one PLACE more", x.boards(0, 5, 0), NONE);
        Check.due("one PLACE less", x.boards(-1, 0, 0), NONE);
        Check.due("one PLACE less", x.boards(0, -1, 0), NONE);
        Check.due("one LAW more", x.boards(0, 2, 3), NONE);
        Check.due("one LAW less", x.boards(0, 2, -1), NONE);
        for (int bad : FAR) {
            Check.due("boards", x.boards(bad, 2, 0), NONE);
            Check.due("boards", x.boards(0, bad, 0), NONE);
            Check.due("boards", x.boards(0, 2, bad), NONE);
        }
    }

    private static void boardsNeeded() {
        Check.edge(28, "as bits (0: none are needed)");
        ReadBound x = Check.land(RING);
        Check.due("two ways", x.boards(0, 2, 0), 2 + 8);
        Check.due("no way", x.boards(0, 4, 0), 0);
        x.post(0, 3);
        Check.due("one is there", x.boards(0, 2, 0), 2);
        x.post(0, 1);
        Check.due("both are there", x.boards(0, 2, 0), 0);
        Check.due("one end", x.boards(3, 0, 0), 0);
        Check.due("all stays", x.now(1), 2);
        // a way of all ten PLACES: the least of eight between
        ReadBound y = Check.land("place a;place b;place c;place d;place e;place f;place g;place h;place i;place j;"
                + "road a j;road j i;road i h;road h g;road g f;road f e;road e d;road d c;road c b;deed z;law l 1 z;");
        Check.due("c", y.boards(0, 1, 0), 4);
        Check.due("i", y.boards(9, 7, 0), 256);
    }

    private static void posts() {
        Check.edge(29, "POSTS: n (1 to 3) PLACES for a LAW, as bits;");
        ReadBound x = Check.land("place a;place b;place c;place d;deed z;law l 1 z;repeal r 1 l;man m d 1;man n c 1;man o c 1;man p b 1;");
        Check.due("one", x.posts(0, 1), 4);
        Check.due("two", x.posts(0, 2), 2 + 4);
        Check.due("three", x.posts(0, 3), 2 + 4 + 8);
        Check.due("of a repeal", x.posts(1, 3), 2 + 4 + 8);
        Check.due("all stays", x.now(1) + x.now(0) + x.words(1, 0), 0);
    }

    private static void postsNone() {
        Check.edge(29, "NONE: no such ones, fewer PLACES.");
        ReadBound x = Check.land("place a;place b;deed z;law l 1 z;law k 1 z;");
        Check.due("as many PLACES", x.posts(1, 2), 3);
        Check.due("fewer PLACES", x.posts(1, 3), NONE);
        Check.due("one LAW more", x.posts(2, 1), NONE);
        Check.due("one LAW less", x.posts(-1, 1), NONE);
        Check.due("n 0", x.posts(0, 0), NONE);
        Check.due("n -1", x.posts(0, -1), NONE);
        for (int bad : FAR) {
            Check.due("posts", x.posts(bad, 1), NONE);
            Check.due("posts", x.posts(0, bad), NONE);
        }
        ReadBound y = Check.land("place a;place b;place c;place d;place e;deed z;law l 1 z;");
        Check.due("n 3", y.posts(0, 3), 7);
        Check.due("n 4", y.posts(0, 4), NONE);
        ReadBound z = Check.land("deed z;law l 1 z;");
        Check.due("no PLACES", z.posts(0, 1), NONE);
        // where it is posted already are PLACES, too
        ReadBound w = Check.land("place a;place b;deed z;law l 1 z;post l a;post l b;");
        Check.due("both", w.posts(0, 2), 3);
    }

    private static void posted() {
        Check.edge(30, "MEN who have all of it then, as bits, by the latest posts() that was not NONE; NONE ahead of any.");
        ReadBound x = Check.land("place a;place b;deed z;law l 1 z;law k 9 z;man m a 1;man n b 1;man o b 9;");
        Check.due("ahead of any", x.posted(), NONE);
        x.posts(0, 4);
        Check.due("ahead of any that was not NONE", x.posted(), NONE);
        x.posts(0, 1);
        Check.due("n and o", x.posted(), 6);
        x.posts(0, 2);
        Check.due("all", x.posted(), 7);
        x.posts(0, 3);
        x.posts(9, 1);
        Check.due("of the latest that was not NONE", x.posted(), 7);
        x.posts(1, 1);
        Check.due("o", x.posted(), 4);
        x.fever(2);
        x.land();
        Check.due("it stays", x.posted(), 4);
    }

    // ---- 31 to 36

    private static void reads() {
        Check.edge(31, "READ by what he does not do (DEEDS as bits): in how many sets;");
        ReadBound x = Check.land("deed a;deed b;deed c;deed d;deed e;law l 1 e;law k 1 e;law j 1 e;law i 1 e;law h 1 e;law g 1 e;");
        Check.due("all but the empty one", x.reads(16), 63);
        Check.due("the empty one", x.reads(0), 1);
        Check.due("none", x.reads(1), 0);
        Check.due("none", x.reads(31), 0);
        ReadBound y = Check.land("deed a;");
        Check.due("no LAWS", y.reads(0), 1);
        Check.due("no LAWS", y.reads(1), 0);
    }

    private static void readsNone() {
        Check.edge(31, "NONE: no such ones.");
        ReadBound x = Check.land("deed a;deed b;law l 1 a b;");
        Check.due("all", x.reads(3), 1);
        Check.due("one DEED more", x.reads(4), NONE);
        Check.due("one DEED more and others", x.reads(7), NONE);
        Check.due("bits below 0", x.reads(-1), NONE);
        for (int bad : FAR) {
            Check.due("reads", x.reads(bad), NONE);
        }
        Check.due("the sixth, of five", Check.land("deed a;deed b;deed c;deed d;deed e;").reads(32), NONE);
        ReadBound y = new ReadBound();
        Check.due("no DEEDS, none of them", y.reads(0), 1);
        Check.due("no DEEDS, one of them", y.reads(1), NONE);
    }

    private static void surely() {
        Check.edge(32, "LAWS in each of them, as bits, by the latest reads() that was 1 or more; NONE ahead of any.");
        ReadBound x = Check.land("deed a;deed b;deed c;law l 1 a b;law k 1 b;repeal r 1 k;law j 1 c;");
        Check.due("ahead of any", x.surely(), NONE);
        Check.due("none forbids a alone", x.reads(1), 0);
        x.reads(8);
        Check.due("ahead of any that was 1 or more", x.surely(), NONE);
        Check.due("a b: l; l k", x.reads(3), 2);
        Check.due("l", x.surely(), 1);
        Check.due("all: l j; l k j", x.reads(7), 2);
        Check.due("l and j", x.surely(), 1 + 8);
        x.reads(1);
        x.reads(-1);
        Check.due("by the latest that was 1 or more", x.surely(), 9);
        Check.due("nothing", x.reads(0), 1);
        Check.due("none in the empty one", x.surely(), 0);
        x.reads(6);
        x.land();
        Check.due("it stays", x.surely(), 2 + 8);
    }

    private static void when() {
        Check.edge(33, "a LAW first binds a MAN at its beginning, as all goes on by rounds;");
        // in b on DAYS 1 and 3: a word of 2 binds on even DAYS
        ReadBound x = Check.land("place a;place b;road a b;deed z;law l 2 z;law k 1 z;man m a 1;round m b a;post l b;");
        Check.due("half on DAY 2", x.when(0, 0, 60), 2);
        Check.due("never posted", x.when(0, 1, 60), NONE);
        Check.due("all stays", x.now(0) + x.man(0, 0) + x.words(0, 0), 0);
        // a DAY's rounds are of its beginning
        ReadBound y = Check.land("place a;place b;road a b;deed z;law l 1 z;man m a 1;round m b a;post l b;");
        Check.due("all on DAY 1", y.when(0, 0, 60), 1);
    }

    private static void whenInDays() {
        Check.edge(33, "On which DAY from now on (in n, 1 to 60, DAYS)");
        ReadBound x = Check.land("place a;place b;place c;road a b;road b c;deed z;law l 1 z;man m a 1;round m a a a a a b c b;post l c;");
        Check.due("DAY 7", x.when(0, 0, 60), 7);
        Check.due("in 7", x.when(0, 0, 7), 7);
        Check.due("not in 6", x.when(0, 0, 6), NONE);
        Check.due("not in 1", x.when(0, 0, 1), NONE);
        x.days(6);
        Check.due("in 1", x.when(0, 0, 1), 7);
        Check.due("n 0", x.when(0, 0, 0), NONE);
        Check.due("n 61", x.when(0, 0, 61), NONE);
        x.fever(0);
        x.days(1);
        Check.due("n 0, though it binds now", x.when(0, 0, 0), NONE);
        Check.due("n 61, though it binds now", x.when(0, 0, 61), NONE);
        Check.due("n -1, though it binds now", x.when(0, 0, -1), NONE);
        // a repeal read on DAY 0: the LAW, read on each DAY, binds again behind the end of DAY 9
        ReadBound y = Check.land("place a;deed z;law l 1 z;repeal r 1 l;man m a 1;round m a;post l a;");
        y.post(1, 0);
        y.rain(0);
        y.post(0, 0);
        Check.due("in 10", y.when(0, 0, 10), 10);
        Check.due("not in 9", y.when(0, 0, 9), NONE);
        // the last DAYS
        ReadBound z = Check.land("place a;place b;road a b;deed z;law l 1 z;man m a 1;round m a b;post l b;");
        pass(z, 399);
        z.fever(0);
        Check.due("on the last one, that all are over", z.when(0, 0, 60), 400);
        z.days(1);
        Check.due("now", z.when(0, 0, 60), 400);
        z.fever(0);
        Check.due("no DAY more", z.when(0, 0, 60), NONE);
    }

    private static void whenNone() {
        Check.edge(33, "NONE: not so, no such ones.");
        ReadBound x = Check.land("place a;deed z;law l 1 z;repeal r 1 l;man m a 0;man n a 1;post l a;");
        Check.due("not so", x.when(0, 0, 60), NONE);
        Check.due("the last MAN", x.when(1, 0, 60), 0);
        Check.due("a repeal, the last LAW", x.when(1, 1, 60), NONE);
        Check.due("one MAN more", x.when(2, 0, 60), NONE);
        Check.due("one MAN less", x.when(-1, 0, 60), NONE);
        Check.due("one LAW more", x.when(1, 2, 60), NONE);
        Check.due("one LAW less", x.when(1, -1, 60), NONE);
        for (int bad : FAR) {
            Check.due("when", x.when(bad, 0, 60), NONE);
            Check.due("when", x.when(1, bad, 60), NONE);
            Check.due("when", x.when(1, 0, bad), NONE);
        }
    }

    private static void whenNow() {
        Check.edge(33, "(Now it does: this DAY.)");
        ReadBound x = Check.land("place a;deed z;law l 2 z;law k 1 z;man m a 1;post l a;post k a;");
        Check.due("half on DAY 0", x.when(0, 0, 1), 0);
        x.days(1);
        Check.due("half on DAY 1: on DAY 2", x.when(0, 0, 1), 2);
        Check.due("all on DAY 1", x.when(0, 1, 1), 1);
        x.days(8);
        Check.due("on DAY 9, the last one of it", x.when(0, 1, 1), 9);
        Check.due("half on DAY 9, then forgotten", x.when(0, 0, 60), NONE);
    }

    private static void clerks() {
        Check.edge(34, "All who read for a MAN, or for one who does, .., as bits;");
        ReadBound x = Check.land("place a;man m a 1;man n a 1;man o a 1;man p a 1;man q a 1;man r a 1;"
                + "clerk r q;clerk q p;clerk p o;clerk o n;clerk n m;");
        for (int m = 0; m < 6; m++) {
            Check.due("a chain", x.clerks(m), 63 & ~((2 << m) - 1));
        }
        ReadBound y = Check.land("place a;man m a 1;man n a 1;man o a 1;man p a 1;clerk m n;clerk n o;clerk o m;clerk p o;");
        Check.due("a ring: he reads for one who reads for him", y.clerks(0), 15);
        Check.due("beside the ring", y.clerks(3), 0);
        ReadBound z = Check.land("place a;man m a 1;man n a 1;man o a 1;clerk n m;clerk m o;");
        Check.due("by the first MAN", z.clerks(2), 3);
    }

    private static void clerksNone() {
        Check.edge(34, "NONE: no such one.");
        ReadBound x = Check.land("place a;man m a 1;man n a 1;");
        Check.due("the last MAN", x.clerks(1), 0);
        Check.due("one MAN more", x.clerks(2), NONE);
        Check.due("one MAN less", x.clerks(-1), NONE);
        for (int bad : FAR) {
            Check.due("clerks", x.clerks(bad), NONE);
        }
    }

    private static void drawn() {
        Check.edge(35, "n (1 to 60) DAYS DRAWN by a seed: how many went by;");
        ReadBound x = Check.land("place a;");
        Check.due("drawn(1)", x.drawn(1, 0), 1);
        Check.due("drawn(60)", x.drawn(60, Integer.MIN_VALUE), 60);
        Check.due("DAY", x.now(0), 61);
        for (int i = 0; i < 5; i++) {
            Check.due("drawn(60)", x.drawn(60, Integer.MAX_VALUE), 60);
        }
        Check.due("of 60 the last 39", x.drawn(60, -1), 39);
        Check.due("none", x.drawn(60, 1), 0);
        Check.due("DAY", x.now(0), 400);
        Check.due("undone", x.undo(), 7);
        Check.due("just as many as are left", x.drawn(39, 1), 39);
    }

    private static void drawnNone() {
        Check.edge(35, "NONE: not as told, no PLACES.");
        ReadBound x = new ReadBound();
        Check.due("no PLACES", x.drawn(1, 1), NONE);
        Check.landOf(x, "deed d;");
        Check.due("no PLACES", x.drawn(60, 1), NONE);
        Check.landOf(x, "place a;");
        for (int bad : new int[] {0, -1, 61, Integer.MAX_VALUE, Integer.MIN_VALUE}) {
            Check.due("drawn(" + bad + ")", x.drawn(bad, 1), NONE);
        }
        Check.due("DAY", x.now(0), 0);
        Check.due("none was done", x.undo(), NONE);
    }

    private static void odds() {
        Check.edge(36, "Of n (1 to 30) seeds x, x and 1, .. by how many a MAN is bound by nothing behind 20 DAYS DRAWN from now on;");
        ReadBound x = Check.land("place a;place b;road a b;deed z;law l 1 z;man m a 1;man n a 0;round m a a b;post l a;post l b;");
        x.days(1);
        x.image(0);
        int[] seeds = {0, 77, -5, Integer.MAX_VALUE - 7, Integer.MIN_VALUE};
        int all = 0;
        for (int seed : seeds) {
            int free = 0;
            for (int i = 0; i < 30; i++) {
                x.drawn(20, seed + i);
                free += x.binds(0) == 0 ? 1 : 0;
                x.restore(0);
                if (i == 0) {
                    Check.due("of one seed", x.odds(0, 1, seed), free);
                }
            }
            Check.due("of thirty seeds", x.odds(0, 30, seed), free);
            Check.due("he who is never bound", x.odds(1, 30, seed), 30);
            all += free;
        }
        Check.due("some are bound, some are not", all > 0 && all < 150, true);
        Check.due("all stays", x.now(0), 1);
        // the last DAYS: as many as are left
        pass(x, 391);
        x.image(0);
        int free = 0;
        for (int i = 0; i < 30; i++) {
            Check.due("8 are left", x.drawn(20, i), 8);
            free += x.binds(0) == 0 ? 1 : 0;
            x.restore(0);
        }
        Check.due("behind the last ones", x.odds(0, 30, 0), free);
        Check.due("DAY", x.now(0), 392);
    }

    private static void oddsNone() {
        Check.edge(36, "NONE: no such ones.");
        ReadBound x = Check.land("place a;man m a 1;man n a 1;");
        Check.due("the last MAN", x.odds(1, 1, 1), 1);
        Check.due("one MAN more", x.odds(2, 1, 1), NONE);
        Check.due("one MAN less", x.odds(-1, 1, 1), NONE);
        Check.due("n 0", x.odds(0, 0, 1), NONE);
        Check.due("n 30", x.odds(0, 30, 1), 30);
        Check.due("n 31", x.odds(0, 31, 1), NONE);
        Check.due("n -1", x.odds(0, -1, 1), NONE);
        for (int bad : FAR) {
            Check.due("odds", x.odds(bad, 1, 1), NONE);
            Check.due("odds", x.odds(0, bad, 1), NONE);
        }
    }

    // ---- 37 to 40

    private static void diaryJudged() {
        Check.edge(37, "it is judged, all staying as it is (lives 0)");
        ReadBound x = Check.land(Check.LAND);
        Check.due("judged", Check.diaryOf(x, "ida goes c;joe does beg;duke wears;ida fevers;posts tax a;rains b;day 2;", 0), NONE);
        Check.due("DAY", x.now(0), 0);
        Check.due("posts", x.now(1), 3);
        Check.due("DEEDS", x.now(2), 0);
        Check.due("blinkers", x.now(3), 0);
        Check.due("rains", x.now(4), 0);
        Check.due("PLACE", x.man(1, 0), 3);
        Check.due("words", x.words(1, 2), 3);
        Check.due("nothing to undo", x.undo(), NONE);
        Check.due("judged once more", Check.diaryOf(x, "ida goes c;joe does beg;duke wears;ida fevers;posts tax a;rains b;day 2;", 0), NONE);
    }

    private static void diaryLived() {
        Check.edge(37, "or lived as far as it is not WRONG (1)");
        ReadBound x = Check.land(Check.LAND);
        Check.due("lived", Check.diaryOf(x, "ida goes c;joe does beg;duke wears;ida fevers;posts tax a;rains b;day 2;", 1), NONE);
        Check.due("DAY", x.now(0), 2);
        Check.due("posts", x.now(1), 3);
        Check.due("DEEDS", x.now(2), 1);
        Check.due("blinkers", x.now(3), 4);
        Check.due("rains", x.now(4), 1);
        Check.due("PLACE", x.man(1, 0), 2);
        Check.due("as far", Check.diaryOf(x, "duke bares;duke bares;day 9;", 1), 1);
        Check.due("blinkers", x.now(3), 0);
        Check.due("DAY", x.now(0), 2);
        pass(x, 350);
        Check.due("of 60 DAYS 48 are left: none of them", Check.diaryOf(x, "day 60;", 1), 0);
        Check.due("DAY", x.now(0), 352);
        Check.due("48", Check.diaryOf(x, "day 48;", 1), NONE);
        Check.due("DAY", x.now(0), 400);
    }

    private static void diaryWrong() {
        Check.edge(37, "the LINE that is WRONG; NONE: none;");
        ReadBound x = Check.land(Check.LAND);
        for (int lives = 0; lives <= 1; lives++) {
            Check.due("the first", Check.diaryOf(x, "duke bares;", lives), 0);
            Check.due("the last of 40", Check.diaryOf(x, Check.times("day 1;", 39) + "duke bares;", lives), 39);
            Check.due("the first of two", Check.diaryOf(x, "day 1;duke bares;day 1;duke bares;", lives), 1);
            Check.due("none of 40", Check.diaryOf(x, Check.times("day 1;", 40), lives), NONE);
            Check.due("none of none", x.diary(lives), NONE);
        }
    }

    private static void diaryFault() {
        Check.edge(37, "-2 less the place of a FAULT;");
        ReadBound x = Check.land(Check.LAND);
        for (int lives = 0; lives <= 1; lives++) {
            Check.due("at 0", Check.diaryOf(x, "!", lives), -2);
            Check.due("at 3", Check.diaryOf(x, "day", lives), -5);
            Check.due("behind a LINE that is WRONG", Check.diaryOf(x, "duke bares;!", lives), -13);
            Check.due("behind LINES that are not", Check.diaryOf(x, "day 3;duke wears;!", lives), -19);
            Check.due("at 400", Check.diaryOf(x, Check.times(" ", 401), lives), -402);
            Check.due("nothing is lived", x.now(0) + x.now(3), 0);
        }
        Check.due("nothing to undo", x.undo(), NONE);
    }

    private static void diaryOtherLives() {
        Check.edge(37, "-1000: another lives (the tape stays).");
        ReadBound x = Check.land(Check.LAND);
        Check.tape(x, "day 3;");
        for (int bad : new int[] {-1, 2, -1000, Integer.MAX_VALUE, Integer.MIN_VALUE}) {
            Check.due("diary(" + bad + ")", x.diary(bad), -1000);
            Check.due("the tape stays", x.count(5), 6);
            Check.due("DAY", x.now(0), 0);
        }
        Check.due("and is a DIARY", x.diary(1), NONE);
        Check.due("DAY", x.now(0), 3);
        Check.tape(x, "!");
        Check.due("ahead of a FAULT", x.diary(2), -1000);
        Check.due("the tape stays", x.count(5), 1);
    }

    private static void toldOfLatest() {
        Check.edge(38, "Of the latest diary() that had no FAULT (and was not -1000)");
        ReadBound x = Check.land(Check.LAND);
        Check.diaryOf(x, "day 3;duke bares;", 0);
        Check.diaryOf(x, "day 9;!", 1);
        x.diary(2);
        x.days(5);
        x.land();
        Check.due("why", x.told(0), 31);
        Check.due("LINES", x.told(1), 1);
        Check.due("DAY", x.told(2), 3);
        Check.due("free", x.told(3), 7);
        x.diary(0);
        Check.due("of an empty one now", x.told(0) + x.told(1) + x.told(2) + x.told(3), 0);
    }

    private static void why(String text, int why) {
        ReadBound x = Check.land(Check.LAND);
        for (int lives = 0; lives <= 1; lives++) {
            Check.diaryOf(x, text, lives);
            Check.due("why of " + text, x.told(0), why);
        }
    }

    private static void toldWhy() {
        Check.edge(38, "0 why it was WRONG (0: it was not; as for going, 10 more as for doing, 20 for wearing, 30 for baring, 40 for fevers, "
                + "50 for posting, 60 for rain; 71 fewer DAYS are left)");
        why("", 0);
        why("day 1;", 0);
        why("joe goes b;joe goes a;", 1);
        why("joe goes b;joe goes d;", 1);
        why("joe goes c;", 2);
        why("joe goes a;", 2);
        why("posts tax d;ida does beg;", 11);
        why("ida wears;ida wears;", 21);
        why("ida bares;", 31);
        why("ida fevers;ida fevers;", 41);
        why("posts tax b;", 51);
        why("rains b;rains b;", 61);
        why(Check.times("day 60;", 6) + "day 40;", 0);
        why(Check.times("day 60;", 6) + "day 41;", 71);
        why(Check.times("day 60;", 6) + "day 40;day 1;", 71);
    }

    private static void toldLines() {
        Check.edge(38, "1 LINES that are not");
        ReadBound x = Check.land(Check.LAND);
        Check.diaryOf(x, "", 0);
        Check.due("no LINES", x.told(1), 0);
        Check.diaryOf(x, Check.times("day 1;", 40), 0);
        Check.due("all 40", x.told(1), 40);
        Check.diaryOf(x, "ida bares;day 1;day 1;", 0);
        Check.due("none ahead of the first", x.told(1), 0);
        Check.diaryOf(x, "day 1;day 1;ida bares;day 1;", 1);
        Check.due("two ahead of the third", x.told(1), 2);
    }

    private static void toldThen() {
        Check.edge(38, "2 the DAY then, 3 MEN who are free then, as bits.");
        ReadBound x = Check.land("place a;deed d;law l 2 d;man m a 0;man n a 1;man o a 2;post l a;");
        Check.diaryOf(x, "", 0);
        Check.due("DAY", x.told(2), 0);
        Check.due("free", x.told(3), 1);
        Check.diaryOf(x, "day 1;m bares;day 9;", 0);
        Check.due("the DAY of the WRONG one", x.told(2), 1);
        Check.due("free", x.told(3), 3);
        Check.diaryOf(x, "day 10;", 0);
        Check.due("DAY", x.told(2), 10);
        Check.due("free", x.told(3), 7);
        Check.due("it is not that DAY", x.now(0), 0);
        Check.diaryOf(x, "day 1;", 1);
        x.days(20);
        Check.due("the DAY then, not now", x.told(2), 1);
        Check.due("free then, not now", x.told(3), 3);
    }

    private static void toldNone() {
        Check.edge(38, "NONE: another what, or ahead of any.");
        ReadBound x = Check.land(Check.LAND);
        for (int what = -1; what <= 4; what++) {
            Check.due("ahead of any", x.told(what), NONE);
        }
        x.diary(2);
        Check.diaryOf(x, "!", 0);
        for (int what = 0; what < 4; what++) {
            Check.due("ahead of any without a FAULT", x.told(what), NONE);
        }
        x.diary(0);
        Check.due("the last what", x.told(3), 7);
        Check.due("told(4)", x.told(4), NONE);
        Check.due("told(-1)", x.told(-1), NONE);
        for (int bad : FAR) {
            Check.due("told", x.told(bad), NONE);
        }
    }

    private static void sentence() {
        Check.edge(39, "The tape is the SENTENCE now: how many ONES (each not, bracket and other one);");
        ReadBound x = Check.land(Check.LAND);
        Check.due("one", Check.sentenceOf(x, "free"), 1);
        Check.due("not", Check.sentenceOf(x, "not free"), 2);
        Check.due("bracket", Check.sentenceOf(x, "(free)"), 2);
        Check.due("and, or are none", Check.sentenceOf(x, "free and free or free"), 3);
        Check.due("all", Check.sentenceOf(x, "not (not blind and (in a or sight<1))"), 7);
        Check.due("most", Check.sentenceOf(x, "free" + Check.times(" or free", 19)), 20);
    }

    private static void sentenceFault() {
        Check.edge(39, "-1 less the place of a FAULT: it stays.");
        ReadBound x = Check.land(Check.LAND);
        Check.due("at 0", Check.sentenceOf(x, "!"), -1);
        Check.due("there is none", x.said(NONE), NONE);
        Check.sentenceOf(x, "in d");
        String[] texts = {"", "!", "free and", "in c and in x", "number<1 or number", "free free"};
        int[] places = {0, 0, 8, 12, 18, 5};
        for (int i = 0; i < texts.length; i++) {
            Check.due("sentence '" + texts[i] + "'", Check.sentenceOf(x, texts[i]), -1 - places[i]);
            Check.due("it stays", x.said(NONE), 1);
            Check.due("it stays", x.said(0), 1);
        }
    }

    private static void said() {
        Check.edge(40, "MEN of whom it may be said: how many (k NONE), or the k-th.");
        ReadBound x = Check.land("place a;man m a 1;man n a 0;man o a 1;man p a 0;man q a 1;man r a 1;");
        Check.sentenceOf(x, "sight=1");
        int[] due = {0, 2, 4, 5};
        Check.due("how many", x.said(NONE), 4);
        for (int k = 0; k < 4; k++) {
            Check.due("the " + k + "-th", x.said(k), due[k]);
        }
        x.wear(2, 1);
        Check.sentenceOf(x, "not blind");
        Check.due("how many", x.said(NONE), 3);
        x.wear(2, 0);
        Check.due("as it is then", x.said(NONE), 4);
        Check.sentenceOf(x, "sight<2");
        Check.due("all", x.said(NONE), 6);
        Check.due("the last one", x.said(5), 5);
    }

    private static void saidNone() {
        Check.edge(40, "NONE: there is no SENTENCE, none such.");
        ReadBound x = Check.land("place a;man m a 1;man n a 0;");
        Check.due("no SENTENCE", x.said(NONE), NONE);
        Check.due("no SENTENCE", x.said(0), NONE);
        Check.sentenceOf(x, "sight=1");
        Check.due("the last one", x.said(0), 0);
        Check.due("one more", x.said(1), NONE);
        Check.due("one less", x.said(-2), NONE);
        for (int bad : FAR) {
            Check.due("said", x.said(bad), NONE);
        }
        Check.sentenceOf(x, "sight=2");
        Check.due("said of none", x.said(NONE), 0);
        Check.due("none such", x.said(0), NONE);
        Check.landOf(x, "place a;man m a 2;");
        Check.due("no SENTENCE of a new LAND", x.said(NONE), NONE);
    }

    // ---- 41 to 43

    private static void image() {
        Check.edge(41, "LAND, all that is so and the SENTENCE are kept in place k (0, 1): true;");
        ReadBound x = Check.land(Check.LAND);
        Check.sentenceOf(x, "in d");
        x.days(2);
        Check.due("image(0)", x.image(0), true);
        Check.landOf(x, "place z;man u z 3;");
        x.wear(0, 1);
        Check.due("image(1)", x.image(1), true);
        Check.due("restore(0)", x.restore(0), true);
        Check.due("PLACES", x.count(0), 4);
        Check.due("DAY", x.now(0), 2);
        Check.due("SENTENCE", x.said(0), 1);
        Check.due("restore(1)", x.restore(1), true);
        Check.due("PLACES", x.count(0), 1);
        Check.due("blinkers", x.now(3), 1);
        Check.due("no SENTENCE", x.said(NONE), NONE);
        x.wear(0, 0);
        Check.due("kept anew", x.image(1), true);
        x.restore(0);
        x.restore(1);
        Check.due("blinkers", x.now(3), 0);
    }

    private static void imageNone() {
        Check.edge(41, "false: no such one.");
        ReadBound x = Check.land(Check.LAND);
        for (int bad : new int[] {-1, 2, Integer.MAX_VALUE, Integer.MIN_VALUE}) {
            Check.due("image(" + bad + ")", x.image(bad), false);
        }
        Check.due("nothing is kept", x.restore(0) || x.restore(1), false);
        x.image(0);
        x.image(1);
        x.days(1);
        for (int bad : new int[] {-1, 2, Integer.MAX_VALUE, Integer.MIN_VALUE}) {
            Check.due("image(" + bad + ")", x.image(bad), false);
        }
        Check.due("restore(1)", x.restore(1), true);
        Check.due("as kept first", x.now(0), 0);
    }

    private static void restore() {
        Check.edge(42, "They are as kept in place k");
        ReadBound x = Check.land(Check.LAND);
        x.days(3);
        x.go(0, 0);
        x.act(1, 0);
        x.wear(2, 1);
        x.rain(1);
        x.image(0);
        for (int round = 0; round < 3; round++) {
            Check.due("DAY", x.now(0), 3);
            Check.due("posts", x.now(1), 2);
            Check.due("DEEDS", x.now(2), 1);
            Check.due("blinkers", x.now(3), 4);
            Check.due("rains", x.now(4), 1);
            Check.due("PLACE", x.man(0, 0), 0);
            Check.due("went", x.man(0, 4), 1);
            Check.due("DEEDS", x.man(1, 5), 1);
            Check.due("words", x.words(0, 0) * 100 + x.words(0, 1) * 10 + x.words(0, 2), 222);
            Check.due("read on DAY 1", x.forgets(0, 0), 8);
            x.days(1);
            Check.due("its round goes on to a, where he is", x.man(0, 0), 0);
            x.days(1);
            Check.due("and to b", x.man(0, 0), 1);
            x.drawn(30, round);
            Check.due("restore", x.restore(0), true);
        }
    }

    private static void restoreStays() {
        Check.edge(42, "(the tape, and what other calls told last, stays;");
        ReadBound x = Check.land(Check.LAND);
        x.image(0);
        x.way(0, 2, 0);
        x.posts(0, 1);
        x.reads(3);
        Check.diaryOf(x, "day 9;duke bares;", 0);
        Check.sentenceOf(x, "in x");
        int posted = x.posted();
        Check.tape(x, "place q;");
        Check.due("restore", x.restore(0), true);
        Check.due("way()", x.step(0) * 10 + x.step(1), 12);
        Check.due("posts()", x.posted(), posted);
        Check.due("reads()", x.surely(), 2);
        Check.due("diary()", x.told(0) * 100 + x.told(2), 3109);
        Check.due("fault()", x.fault(), 3);
        Check.due("bytes of the tape", x.count(5), 8);
        Check.due("and what they are", x.land(), 1);
    }

    private static void restoreUndo() {
        Check.edge(42, "nothing can be undone): true;");
        ReadBound x = Check.land(Check.LAND);
        x.act(0, 0);
        x.image(0);
        x.act(0, 0);
        Check.due("restore", x.restore(0), true);
        Check.due("undo", x.undo(), NONE);
        Check.due("DEEDS", x.now(2), 1);
        x.act(0, 0);
        Check.due("what is done then can be", x.undo(), 0);
        Check.due("DEEDS", x.now(2), 1);
    }

    private static void restoreNone() {
        Check.edge(42, "false: no such one, or nothing is kept there.");
        ReadBound x = Check.land(Check.LAND);
        x.act(0, 0);
        for (int bad : new int[] {-1, 0, 1, 2, Integer.MAX_VALUE, Integer.MIN_VALUE}) {
            Check.due("restore(" + bad + ")", x.restore(bad), false);
        }
        Check.due("LAND", x.count(0), 4);
        x.image(1);
        Check.due("in the other place nothing is", x.restore(0), false);
        Check.due("and what was done can be undone", x.undo(), 0);
        Check.due("DEEDS", x.now(2), 0);
        Check.due("restore(1)", x.restore(1), true);
        Check.due("DEEDS", x.now(2), 1);
    }

    private static void count() {
        Check.edge(43, "0 PLACES, 1 roads, 2 DEEDS, 3 LAWS, 4 MEN, 5 bytes of the tape.");
        ReadBound x = Check.land("place a;place b;place c;place d;place e;road a b;road a c;road a d;road a e;deed f;deed g;deed h;law i 1 f;repeal j 1 i;man k a 1;");
        Check.tape(x, "abcdef");
        int[] due = {5, 4, 3, 2, 1, 6};
        for (int what = 0; what < 6; what++) {
            Check.due("count(" + what + ")", x.count(what), due[what]);
        }
    }

    private static void countNone() {
        Check.edge(43, "NONE for another what.");
        ReadBound x = Check.land(Check.LAND);
        Check.due("count(6)", x.count(6), NONE);
        Check.due("count(-1)", x.count(-1), NONE);
        for (int bad : FAR) {
            Check.due("count", x.count(bad), NONE);
        }
    }
}
