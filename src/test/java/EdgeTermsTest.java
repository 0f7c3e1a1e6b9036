/** The edges of the other 'Terms': reading, STATES, acts, DAYS, WAYS, BOARDS, POSTS, draws; and 'What it is'. */
public final class EdgeTermsTest {
    private static final int NONE = ReadBound.NONE;

    public static void main(String[] args) {
        calls();
        blinkersReadNothing();
        sightAndLength();
        readThatDay();
        readForAnother();
        readThatDayForAnother();
        notForTheNext();
        whenHeReads();
        states();
        half();
        all();
        repealed();
        repealBindsNobody();
        may();
        go();
        deed();
        wearAndBare();
        fever();
        post();
        rain();
        lastDay();
        forgetting();
        roundsByNumbers();
        roundsGoRound();
        roundsAndRoads();
        noGoingOfToday();
        way();
        fewestBoards();
        boards();
        posts();
        readByWhatHeDoesNotDo();
        drawsWrap();
        drawnRain();
        drawnFever();
        drawnGoing();
        newLand();
        throwing();
        Check.end();
    }

    private static void edge(String words) {
        Check.edge("Terms", words);
    }

    /** Ends as many DAYS, 60 at a time. */
    private static void pass(ReadBound x, int days) {
        for (int left = days; left > 0; left -= 60) {
            x.days(Math.min(left, 60));
        }
    }

    private static void calls() {
        Check.edge("What it is", "An object is used for at most 512 calls after it has been made; what later calls answer is free.");
        ReadBound x = new ReadBound();
        // "place a;" "deed d;" and "man m a 1;": 3 calls
        x.feed(0x706c6163, 0x6520613b, 0x64656564, 0x20643b6d, 0x616e206d);
        x.feed(0x20612031, 0x3b202020, 0x20202020, 0x20202020, 0x20202020);
        x.land();
        for (int call = 4; call <= 503; call++) {
            Check.due("call " + call, x.act(0, 0), 0);
        }
        Check.due("call 504", x.man(0, 5), 500);
        for (int call = 505; call <= 512; call++) {
            Check.due("call " + call, x.undo(), 512 - call);
        }
    }

    // ---- to READ

    private static void blinkersReadNothing() {
        edge("a MAN who wears no blinkers reads each LAW posted where he is");
        ReadBound x = Check.land("place a;place b;road a b;deed d;law l 9 d;law k 9 d;law j 9 d;repeal r 9 l;man m a 2;man n a 2;"
                + "post l b;post k b;post r b;post j a;");
        x.wear(1, 1);
        x.go(0, 1);
        x.go(1, 1);
        for (int l = 0; l < 4; l++) {
            Check.due("words of m of " + l, x.words(0, l), 2);
            Check.due("words of n of " + l, x.words(1, l), l == 2 ? 2 : 0);
        }
    }

    private static void sightAndLength() {
        edge("SIGHT words more of it (LENGTH at most)");
        ReadBound x = Check.land("place a;deed d;law l 9 d;law k 10 d;law j 19 d;law i 18 d;law h 1 d;man m a 9;man n a 0;"
                + "post l a;post k a;post j a;post i a;post h a;");
        int[][] due = {{9, 9, 9, 9, 1}, {9, 10, 18, 18, 1}, {9, 10, 19, 18, 1}};
        for (int[] words : due) {
            for (int l = 0; l < 5; l++) {
                Check.due("words", x.words(0, l), words[l]);
                Check.due("SIGHT 0", x.words(1, l), 0);
            }
            x.wear(0, 1);
            x.wear(0, 0);
        }
    }

    private static void readThatDay() {
        edge("it is read on that DAY.");
        ReadBound x = Check.land("place a;deed d;law l 2 d;law k 9 d;man m a 1;man n a 9;round m a;round n a;post l a;post k a;");
        pass(x, 40);
        Check.due("all of it, read again", x.forgets(0, 0), 10);
        Check.due("words", x.words(0, 0), 2);
        x.rain(0);
        x.days(3);
        Check.due("no board, not read", x.forgets(0, 0), 7);
        // SIGHT 0 reads, too: no words more, but that DAY
        ReadBound y = Check.land("place a;deed d;law l 9 d;man m a 3;man n a 0;clerk m n;post l a;");
        y.days(5);
        Check.due("read on DAY 0", y.forgets(1, 0), 5);
        y.wear(1, 1);
        y.wear(1, 0);
        Check.due("read today", y.forgets(1, 0), 10);
        Check.due("no words more", y.words(1, 0), 3);
    }

    private static void readForAnother() {
        edge("He for whom he reads has as many words of it, too, if he had fewer");
        // a clerk of 2 words a time; masters who had 1, 2 and 3
        for (int had = 0; had <= 4; had++) {
            ReadBound x = Check.land("place a;place b;deed d;law l 9 d;man n b " + had + ";man m a 2;clerk m n;post l b;");
            Check.due("he had", x.words(0, 0), had);
            x.post(0, 0);
            Check.due("the clerk", x.words(1, 0), 2);
            Check.due("he for whom he reads", x.words(0, 0), Math.max(2, had));
            x.wear(0, 1);
            x.wear(1, 1);
            x.wear(1, 0);
            Check.due("and then, with blinkers", x.words(0, 0), 4);
        }
        // a clerk who reads no word more, but has some
        ReadBound y = Check.land("place a;deed d;law l 3 d;man m a 3;man n a 0;clerk m n;post l a;");
        y.fever(1);
        y.wear(0, 1);
        Check.due("not by blinkers", y.words(1, 0), 0);
        y.wear(0, 0);
        Check.due("all of it again", y.words(1, 0), 3);
    }

    private static void readThatDayForAnother() {
        edge("and it is read on that DAY for him, too");
        for (int had = 1; had <= 3; had++) {
            ReadBound x = Check.land("place a;place b;deed d;law l 9 d;man n b " + had + ";man m a 2;clerk m n;post l b;");
            x.days(6);
            Check.due("read on DAY 0", x.forgets(0, 0), 4);
            x.post(0, 0);
            Check.due("read today, he had " + had, x.forgets(0, 0), 10);
        }
    }

    private static void notForTheNext() {
        edge("(but not for him for whom that one reads)");
        ReadBound x = Check.land("place a;place b;deed d;law l 9 d;man o b 1;man n b 1;man m a 4;clerk m n;clerk n o;post l b;");
        x.days(3);
        x.post(0, 0);
        Check.due("m", x.words(2, 0), 4);
        Check.due("n", x.words(1, 0), 4);
        Check.due("o", x.words(0, 0), 1);
        Check.due("n read today", x.forgets(1, 0), 10);
        Check.due("o did not", x.forgets(0, 0), 7);
        // a ring of two: what he reads comes back to nobody
        ReadBound y = Check.land("place a;place b;deed d;law l 9 d;man m a 4;man n b 1;clerk m n;clerk n m;post l a;");
        Check.due("m", y.words(0, 0), 4);
        Check.due("n", y.words(1, 0), 4);
        y.post(0, 1);
        Check.due("n more", y.words(1, 0), 5);
        Check.due("m as many", y.words(0, 0), 5);
    }

    private static void whenHeReads() {
        edge("He reads: when he comes to a PLACE; when a LAW is posted where he is (that one alone); when he bares his eyes; "
                + "at the beginning, by numbers of MEN.");
        ReadBound x = Check.land("place a;place b;road a b;deed d;law l 9 d;law k 9 d;man m a 1;man n b 1;post l a;");
        Check.due("at the beginning", x.words(0, 0), 1);
        Check.due("elsewhere", x.words(1, 0), 0);
        x.post(1, 0);
        Check.due("posted where he is", x.words(0, 1), 1);
        Check.due("that one alone", x.words(0, 0), 1);
        Check.due("not elsewhere", x.words(1, 1), 0);
        x.wear(0, 1);
        Check.due("not by wearing", x.words(0, 0), 1);
        x.wear(0, 0);
        Check.due("bares", x.words(0, 0), 2);
        Check.due("bares", x.words(0, 1), 2);
        x.go(1, 0);
        Check.due("comes", x.words(1, 0), 1);
        Check.due("comes", x.words(1, 1), 1);
        x.days(1);
        x.act(0, 0);
        Check.due("not by a DAY without a round, nor by a DEED", x.words(0, 0), 2);
        ReadBound first = Check.land("place a;deed d;law l 9 d;man m a 3;man n a 1;clerk m n;post l a;");
        Check.due("the clerk first: 3 and 1", first.words(1, 0), 4);
        ReadBound second = Check.land("place a;deed d;law l 9 d;man n a 1;man m a 3;clerk m n;post l a;");
        Check.due("the clerk behind: 1, then 3", second.words(0, 0), 3);
    }

    // ---- STATE

    private static void states() {
        edge("STATE of a LAW for a MAN: 0 nothing; 1 half: half of LENGTH at least (2 times his words), not all:");
        for (int length = 1; length <= 30; length++) {
            ReadBound x = Check.land("place a;deed d;law l " + length + " d;man m a 1;post l a;");
            for (int words = 1; words <= length; words++) {
                Check.due("words", x.words(0, 0), words);
                int state = words == length ? 2 : 2 * words >= length ? 1 : 0;
                Check.due("state of " + words + " of " + length, x.state(0, 0), state);
                x.wear(0, 1);
                x.wear(0, 0);
            }
        }
        ReadBound none = Check.land("place a;deed d;law l 1 d;repeal r 2 l;man m a 0;man n a 1;post l a;post r a;");
        Check.due("no words", none.state(0, 0), 0);
        Check.due("half of a repeal", none.state(1, 1), 1);
    }

    private static void half() {
        edge("it binds on even DAYS");
        ReadBound x = Check.land("place a;deed d;law l 4 d;man m a 2;man n a 1;man o a 4;round m a;post l a;");
        x.wear(0, 1);
        for (int day = 0; day < 10; day++) {
            Check.due("DAY", x.now(0), day);
            Check.due("half on DAY " + day, x.binds(0), day % 2 == 0 ? 1 : 0);
            Check.due("less than half on DAY " + day, x.binds(1), 0);
            Check.due("all on DAY " + day, x.binds(2), 1);
            x.days(1);
        }
        Check.due("forgotten on DAY 10", x.binds(0) + x.binds(2), 0);
    }

    private static void all() {
        edge("2 all: it binds.");
        ReadBound x = Check.land("place a;deed d;law l 1 d;law k 9 d;law j 10 d;man m a 9;post l a;post k a;post j a;");
        Check.due("DAY 0", x.binds(0), 7);
        x.days(1);
        Check.due("DAY 1: 9 of 10 are half", x.binds(0), 3);
    }

    private static void repealed() {
        edge("A LAW does not bind, if he has all of a repeal of it.");
        ReadBound x = Check.land("place a;deed d;law l 4 d;repeal r 4 l;law k 4 d;man m a 4;man n a 3;man o a 2;post l a;post r a;post k a;");
        Check.due("all of both", x.binds(0), 4);
        Check.due("half of both", x.binds(1), 5);
        Check.due("half of both", x.binds(2), 5);
        ReadBound y = Check.land("place a;place b;deed d;law l 4 d;repeal r 2 l;man m a 2;post l a;post r a;");
        Check.due("half of the LAW, all of the repeal", y.binds(0), 0);
        Check.due("state", y.state(0, 0), 1);
        ReadBound z = Check.land("place a;deed d;law l 4 d;repeal r 9 l;repeal q 4 l;man m a 4;post l a;post r a;post q a;");
        Check.due("one of two repeals", z.binds(0), 0);
        z.days(9);
        z.wear(0, 1);
        z.rain(0);
        z.wear(0, 0);
        z.post(0, 0);
        z.days(1);
        Check.due("the repeal is forgotten", z.binds(0), 1);
    }

    private static void repealBindsNobody() {
        edge("(A repeal binds nobody.)");
        ReadBound x = Check.land("place a;deed d;law l 4 d;repeal r 1 l;man m a 9;post r a;");
        Check.due("all of it", x.state(0, 1), 2);
        Check.due("binds", x.binds(0), 0);
        Check.due("bound", x.bound(1), 0);
        Check.due("free", x.now(5), 1);
        Check.due("may", x.act(0, 0), 0);
    }

    private static void may() {
        edge("He MAY do a DEED that no LAW which binds him now forbids.");
        ReadBound x = Check.land("place a;deed d;deed e;deed f;law l 1 d e;law k 1 e;repeal r 1 l;man m a 1;post l a;post k a;");
        Check.due("d", x.act(0, 0), 1);
        Check.due("e", x.act(0, 1), 1);
        Check.due("f", x.act(0, 2), 0);
        x.post(2, 0);
        Check.due("d, as l is repealed", x.act(0, 0), 0);
        Check.due("e, by k still", x.act(0, 1), 1);
    }

    // ---- acts

    private static void go() {
        edge("To GO: why not, the least: 1 he went today; 2 there is no road.");
        ReadBound x = Check.land("place a;place b;place c;road a b;man m a 1;");
        Check.due("no road", x.go(0, 2), 2);
        Check.due("where he is", x.go(0, 0), 2);
        Check.due("a road", x.go(0, 1), 0);
        Check.due("went, a road", x.go(0, 0), 1);
        Check.due("went, no road", x.go(0, 2), 1);
        Check.due("went, where he is", x.go(0, 1), 1);
        Check.due("he is in b", x.man(0, 0), 1);
        x.days(1);
        Check.due("went yesterday: no road", x.go(0, 2), 2);
        Check.due("went yesterday", x.go(0, 0), 0);
    }

    private static void deed() {
        edge("To DO a DEED: 1 he may not.");
        ReadBound x = Check.land("place a;deed d;law l 1 d;man m a 1;man n a 0;post l a;");
        Check.due("he may not", x.act(0, 0), 1);
        Check.due("not done", x.now(2), 0);
        Check.due("he may", x.act(1, 0), 0);
        Check.due("again", x.act(1, 0), 0);
        Check.due("done", x.now(2), 2);
    }

    private static void wearAndBare() {
        edge("To WEAR blinkers: 1 he does; to BARE: 1 he wears none.");
        ReadBound x = Check.land("place a;deed d;law l 9 d;man m a 1;post l a;");
        Check.due("wears none", x.wear(0, 0), 1);
        Check.due("not read by it", x.words(0, 0), 1);
        Check.due("wears", x.wear(0, 1), 0);
        Check.due("he does", x.wear(0, 1), 1);
        Check.due("bares", x.wear(0, 0), 0);
        Check.due("wears none", x.wear(0, 0), 1);
        Check.due("read once by it", x.words(0, 0), 2);
    }

    private static void fever() {
        edge("A FEVER: 1 he has no words: he has none then.");
        ReadBound x = Check.land("place a;deed d;law l 9 d;repeal r 9 l;law k 9 d;law j 9 d;law i 9 d;law h 9 d;man m a 1;man n a 1;post h a;post r a;");
        Check.due("he has", x.fever(0), 0);
        Check.due("none", x.words(0, 1) + x.words(0, 5), 0);
        Check.due("he has no words", x.fever(0), 1);
        Check.due("the other has", x.words(1, 1) + x.words(1, 5), 2);
        x.rain(0);
        x.post(1, 0);
        Check.due("a word of a repeal alone", x.fever(0), 0);
        x.days(10);
        Check.due("forgotten: no words", x.fever(1), 1);
    }

    private static void post() {
        edge("To POST: 1 it is there.");
        ReadBound x = Check.land("place a;place b;deed d;law l 9 d;law k 9 d;man m a 1;post l a;");
        Check.due("it is there", x.post(0, 0), 1);
        Check.due("not read again", x.words(0, 0), 1);
        Check.due("elsewhere", x.post(0, 1), 0);
        Check.due("another there", x.post(1, 0), 0);
        Check.due("it is there", x.post(0, 1), 1);
        x.rain(1);
        Check.due("it was there", x.post(0, 1), 0);
    }

    private static void rain() {
        edge("To RAIN on a PLACE: 1 nothing is posted there: nothing is then.");
        ReadBound x = Check.land("place a;place b;deed d;law l 9 d;law k 9 d;law j 9 d;post l a;post j a;post k b;");
        Check.due("rain", x.rain(0), 0);
        Check.due("nothing is then", x.place(0, 1), 0);
        Check.due("nothing is there", x.rain(0), 1);
        Check.due("elsewhere it is", x.place(1, 1), 2);
        Check.due("rains", x.now(4), 1);
        x.post(1, 0);
        Check.due("posted anew", x.rain(0), 0);
        Check.due("rains", x.now(4), 2);
    }

    // ---- DAYS

    private static void lastDay() {
        edge("A DAY (0 to 399; 400: all are over)");
        ReadBound x = Check.land("place a;deed d;law l 9 d;man m a 1;round m a;post l a;");
        Check.due("DAY", x.now(0), 0);
        pass(x, 399);
        Check.due("DAY", x.now(0), 399);
        Check.due("one more", x.days(2), 1);
        Check.due("all are over", x.now(0), 400);
        Check.due("none", x.days(1), 0);
        Check.due("none", x.drawn(1, 1), 0);
        Check.due("DAY", x.now(0), 400);
        Check.due("undone", x.undo(), 7);
        Check.due("DAY", x.now(0), 399);
    }

    private static void forgetting() {
        edge("LAWS that a MAN has not read for 9 DAYS (read on DAY d: at the end of DAY d and 9) he forgets: no words.");
        for (int read = 0; read <= 12; read++) {
            ReadBound x = Check.land("place a;deed d;law l 9 d;law k 9 d;man m a 3;man n a 4;");
            pass(x, read);
            x.post(0, 0);
            x.days(1);
            x.post(1, 0);
            x.days(8);
            Check.due("on DAY d and 9", x.words(0, 0), 3);
            x.days(1);
            Check.due("behind its end", x.words(0, 0), 0);
            Check.due("of the other", x.words(1, 0), 0);
            Check.due("the other LAW, a DAY later", x.words(0, 1), 3);
            x.days(1);
            Check.due("behind its end", x.words(0, 1), 0);
        }
        ReadBound y = Check.land("place a;deed d;law l 9 d;man m a 3;post l a;");
        pass(y, 9);
        y.wear(0, 1);
        y.wear(0, 0);
        y.days(1);
        Check.due("read again on DAY 9", y.words(0, 0), 6);
        // a DAY ends ahead of the rounds of the next one: forgotten first, then read anew
        ReadBound z = Check.land("place a;place b;road a b;deed d;law l 9 d;man m a 3;round m a;post l a;");
        z.rain(0);
        z.days(9);
        z.go(0, 1);
        z.post(0, 0);
        Check.due("on DAY 9", z.words(0, 0), 3);
        z.days(1);
        Check.due("on DAY 10", z.words(0, 0), 3);
        Check.due("read on DAY 10", z.forgets(0, 0), 10);
    }

    private static void roundsByNumbers() {
        edge("each who has a round goes on by it, by numbers");
        ReadBound x = Check.land("place a;place b;road a b;deed d;law l 9 d;man m a 3;man n a 1;man o a 1;clerk m n;round n b;round m b;post l b;");
        x.days(1);
        Check.due("the clerk first: 3 and 1", x.words(1, 0), 4);
        Check.due("he without a round stays", x.man(2, 0), 0);
        ReadBound y = Check.land("place a;place b;road a b;deed d;law l 9 d;man n a 1;man m a 3;clerk m n;round m b;round n b;post l b;");
        y.days(1);
        Check.due("the clerk behind: 1, then 3", y.words(0, 0), 3);
    }

    private static void roundsGoRound() {
        edge("he looks to the PLACE behind the one to which he looked last (the first at first, again the first behind the last)");
        ReadBound x = Check.land("place a;place b;place c;place d;road a b;road b c;road a c;man m a 1;man n a 1;man o a 1;man p a 1;"
                + "round m b c;round n c;round o b c a b c a c b;round p d b d d c;");
        int[] first = {1, 2, 1, 2, 1, 2, 1, 2, 1};
        int[] third = {1, 2, 0, 1, 2, 0, 2, 1, 1};
        int[] fourth = {0, 1, 1, 1, 2, 2, 1, 1, 1};
        for (int i = 0; i < 9; i++) {
            x.days(1);
            Check.due("m on DAY " + (i + 1), x.man(0, 0), first[i]);
            Check.due("n on DAY " + (i + 1), x.man(1, 0), 2);
            Check.due("o on DAY " + (i + 1), x.man(2, 0), third[i]);
            Check.due("p, to whom d is no way, on DAY " + (i + 1), x.man(3, 0), fourth[i]);
        }
    }

    private static void roundsAndRoads() {
        edge("if there is a road, he comes there; where he is already, he reads; else he stays.");
        ReadBound x = Check.land("place a;place b;place c;road a b;deed d;law l 9 d;law k 9 d;man m a 1;man n a 1;"
                + "round m a c b c;round n a c b c;post l a;post k b;");
        x.wear(1, 1);
        int[] placesOfM = {0, 0, 1, 1, 0};
        int[] wordsOfL = {2, 2, 2, 2, 3};
        int[] wordsOfK = {0, 0, 1, 1, 1};
        for (int i = 0; i < 5; i++) {
            x.days(1);
            Check.due("PLACE on DAY " + (i + 1), x.man(0, 0), placesOfM[i]);
            Check.due("PLACE with blinkers", x.man(1, 0), placesOfM[i]);
            Check.due("l on DAY " + (i + 1), x.words(0, 0), wordsOfL[i]);
            Check.due("k on DAY " + (i + 1), x.words(0, 1), wordsOfK[i]);
            Check.due("nothing with blinkers", x.words(1, 0) * 10 + x.words(1, 1), 10);
        }
    }

    private static void noGoingOfToday() {
        edge("(That he goes so is no going of today.)");
        ReadBound x = Check.land("place a;place b;road a b;man m a 1;round m b a;");
        x.days(1);
        Check.due("he is in b", x.man(0, 0), 1);
        Check.due("did not go", x.man(0, 4), 0);
        Check.due("may go", x.go(0, 0), 0);
        Check.due("went", x.man(0, 4), 1);
        x.days(1);
        Check.due("another DAY, where he is already", x.man(0, 0), 0);
        Check.due("did not go", x.man(0, 4), 0);
    }

    // ---- WAYS, BOARDS, POSTS, READ, DRAWN

    private static void way() {
        edge("the fewest steps by roads to a PLACE, so that nowhere on it (the last one, too, not the first) one of them is posted");
        ReadBound x = Check.land("place a;place b;place c;place d;road a b;road b d;road a c;road c d;deed z;law l 9 z;law k 9 z;man m a 1;"
                + "post l a;");
        Check.due("the first does not count", x.way(0, 3, 1), 2);
        Check.due("by b", x.step(0), 1);
        x.post(0, 1);
        Check.due("not by b", x.way(0, 3, 1), 2);
        Check.due("by c", x.step(0), 2);
        x.post(1, 2);
        Check.due("one of two", x.way(0, 3, 3), NONE);
        Check.due("one alone", x.way(0, 3, 2), 2);
        x.post(1, 3);
        Check.due("the last one", x.way(0, 3, 2), NONE);
        Check.due("the last one, without the other", x.way(0, 3, 1), 2);
        Check.due("the first as the last one", x.way(0, 0, 1), 0);
    }

    private static void fewestBoards() {
        edge("BOARDS: the fewest PLACES (neither of the two) at which a LAW must be posted besides so that on each way from one to the other "
                + "it is posted somewhere");
        // one board at an end would do for three ways
        ReadBound x = Check.land("place a;place b;place c;place d;place e;road a c;road a d;road a e;road b c;road b d;road b e;deed z;law l 9 z;");
        Check.due("c, d and e", x.boards(0, 1, 0), 4 + 8 + 16);
        // one at the last PLACE is fewer than two at the first ones
        ReadBound y = Check.land("place a;place b;place c;place d;place e;road a b;road a c;road b e;road c e;road e d;deed z;law l 9 z;");
        Check.due("e", y.boards(0, 3, 0), 16);
        Check.due("all stays", y.now(1), 0);
        // of a ring all the others but the two: two of eight
        ReadBound z = Check.land("place a;place b;place c;place d;place e;place f;place g;place h;place i;place j;"
                + "road a b;road b c;road c d;road d e;road e f;road f g;road g h;road h i;road i j;road j a;deed z;law l 9 z;");
        Check.due("b and g", z.boards(0, 5, 0), 2 + 64);
        Check.due("from i to b", z.boards(8, 1, 0), 1 + 4);
    }

    private static void boards() {
        edge("(where it is posted now, at both ends, too, counts); of like ones the least as bits");
        String land = "place a;place b;place c;place d;place e;road a b;road b c;road a d;road d c;road c e;deed z;law l 9 z;law k 9 z;";
        ReadBound x = Check.land(land);
        Check.due("a to e: c", x.boards(0, 4, 0), 4);
        Check.due("a to c: b and d", x.boards(0, 2, 0), 2 + 8);
        x.post(0, 1);
        Check.due("d besides", x.boards(0, 2, 0), 8);
        Check.due("c or d besides: the least", x.boards(0, 4, 0), 4);
        Check.due("of the other", x.boards(0, 2, 1), 2 + 8);
        x.post(0, 3);
        Check.due("none besides", x.boards(0, 2, 0), 0);
        ReadBound y = Check.land(land + "post l a;");
        Check.due("at the one end", y.boards(0, 2, 0), 0);
        Check.due("at the other end", y.boards(2, 0, 0), 0);
        Check.due("at the end of a road", y.boards(0, 1, 0), 0);
        Check.due("at the other end of a road", y.boards(1, 0, 0), 0);
        ReadBound z = Check.land("place a;place b;place c;place d;road a b;road b c;road c d;deed z;law l 9 z;");
        Check.due("b or c: the least", z.boards(0, 3, 0), 2);
        Check.due("from the other end", z.boards(3, 0, 0), 2);
    }

    private static void posts() {
        edge("n PLACES at which a LAW is posted from now on so that most MEN have all of it 7 DAYS from now (as all goes on by rounds); "
                + "of like ones the least as bits.");
        // by being there on 8 DAYS, this one counted
        ReadBound x = Check.land("place a;place b;deed z;law l 8 z;law k 9 z;man m b 1;round m b;");
        Check.due("8 words", x.posts(0, 1), 2);
        Check.due("m", x.posted(), 1);
        Check.due("not 9: the least", x.posts(1, 1), 1);
        Check.due("nobody", x.posted(), 0);
        // like ones: a and b, a and c, b and c
        ReadBound y = Check.land("place a;place b;place c;deed z;law l 1 z;man m a 1;man n b 1;man o c 1;");
        Check.due("of one the least", y.posts(0, 1), 1);
        Check.due("m", y.posted(), 1);
        Check.due("of two the least", y.posts(0, 2), 3);
        Check.due("m and n", y.posted(), 3);
        Check.due("of three", y.posts(0, 3), 7);
        Check.due("all", y.posted(), 7);
        // where it is posted already it may be named, but nobody reads it there by that
        ReadBound z = Check.land("place a;place b;deed z;law l 2 z;man m a 1;man n b 1;post l a;");
        Check.due("the least of like ones", z.posts(0, 1), 1);
        Check.due("nobody", z.posted(), 0);
        // 7 DAYS from now what was read on DAY 0 is kept; from DAY 2 on it is kept; from DAY 3 on it is not
        ReadBound w = Check.land("place a;place b;deed z;law l 1 z;man m a 1;post l a;");
        w.days(2);
        w.posts(0, 1);
        Check.due("kept till the end of DAY 9", w.posted(), 1);
        w.days(1);
        w.posts(0, 1);
        Check.due("not on DAY 10", w.posted(), 0);
    }

    private static void readByWhatHeDoesNotDo() {
        edge("sets of LAWS (no repeals) that forbid just these DEEDS together");
        ReadBound x = Check.land("deed a;deed b;deed c;law l 1 a;law k 1 b;law j 1 a b;repeal r 1 l;repeal q 1 k;law i 1 c;");
        Check.due("none", x.reads(0), 1);
        Check.due("a", x.reads(1), 1);
        Check.due("b", x.reads(2), 1);
        // j; l j; k j; l k; l k j
        Check.due("a b", x.reads(3), 5);
        Check.due("c", x.reads(4), 1);
        Check.due("a c", x.reads(5), 1);
        Check.due("all", x.reads(7), 5);
        ReadBound y = Check.land("deed a;deed b;law j 1 a b;");
        Check.due("a alone is in none", y.reads(1), 0);
    }

    /** The draws once more, of numbers that can't wrap by themselves. */
    private static final class Draws {
        private long x;

        Draws(int seed) {
            x = seed;
        }

        int draw(int n) {
            x = x * 1103515245L + 12345L & 0xffffffffL;
            return (int) ((x >> 8) % n);
        }
    }

    private static void drawsWrap() {
        edge("x becomes x * 1103515245 + 12345 (an int, wrapping), the draw is (x >>> 8) % n");
        // three PLACES with a board, no MEN: it rains on the first DAY, if the first draw of 4 is 0
        int[] seeds = {0, 1, 2, 3, 4, 5, 6, 7, -1, -2, -3, -4, -5, 1 << 30, 1 << 31, Integer.MAX_VALUE, 123456789, -987654321};
        int boards = 0;
        for (int seed : seeds) {
            ReadBound x = Check.land("place a;place b;place c;deed d;law l 1 d;post l a;post l b;post l c;");
            Draws draws = new Draws(seed);
            int due = draws.draw(4) == 0 ? 7 & ~(1 << draws.draw(3)) : 7;
            Check.due("drawn", x.drawn(1, seed), 1);
            Check.due("boards by seed " + seed, x.law(0, 3), due);
            boards |= 1 << due;
        }
        Check.due("all sorts of seeds", boards, 1 << 3 | 1 << 5 | 1 << 6 | 1 << 7);
    }

    private static void drawnRain() {
        edge("each DAY: a draw of 4: 0: a draw of all PLACES: it rains there, if it can;");
        for (int seed = 0; seed < 60; seed++) {
            ReadBound x = Check.land("place a;place b;place c;deed d;law l 1 d;post l a;post l c;");
            Draws draws = new Draws(seed);
            int boards = 5;
            int rains = 0;
            for (int day = 0; day < 12; day++) {
                if (draws.draw(4) == 0) {
                    int p = draws.draw(3);
                    rains += boards >> p & 1;
                    boards &= ~(1 << p);
                }
            }
            Check.due("drawn", x.drawn(12, seed), 12);
            Check.due("boards by seed " + seed, x.law(0, 3), boards);
            Check.due("rains by seed " + seed, x.now(4), rains);
        }
    }

    private static void drawnFever() {
        edge("then MAN by MAN: a draw of 20: 0: a fever, if it can be;");
        // seeds by which the first MAN is drawn a fever on the first DAY: he who has no words draws no more for all that
        int found = 0;
        for (int seed = 0; found < 8 && seed < 10000; seed++) {
            Draws draws = new Draws(seed);
            if (draws.draw(4) == 0 || draws.draw(20) != 0) {
                continue;
            }
            found++;
            boolean second = draws.draw(20) == 0;
            boolean goes = !second && draws.draw(3) == 0;
            int place = goes ? draws.draw(2) : 0;
            ReadBound x = Check.land("place a;place b;road a b;deed d;law l 9 d;man m a 1;man n a 1;post l a;");
            ReadBound y = Check.land("place a;place b;road a b;deed d;law l 9 d;man m a 0;man n a 1;post l a;");
            x.drawn(1, seed);
            y.drawn(1, seed);
            Check.due("he had words", x.words(0, 0), 0);
            Check.due("he had none", y.words(0, 0), 0);
            Check.due("he stays", x.man(0, 0) + y.man(0, 0), 0);
            Check.due("the other", x.man(1, 0), place);
            Check.due("the other", y.man(1, 0), place);
            Check.due("the other's words", x.words(1, 0), second ? 0 : 1);
        }
        Check.due("found", found, 8);
    }

    private static void drawnGoing() {
        edge("else a draw of 3: 0: a draw of all PLACES: he goes there, if he can; then the DAY.");
        int went = 0;
        for (int seed = 0; seed < 90; seed++) {
            ReadBound x = Check.land("place a;place b;place c;road a b;man m a 1;man n a 1;");
            x.go(1, 1);
            Draws draws = new Draws(seed);
            int place = 0;
            int other = 1;
            int days = 1 + seed % 9;
            for (int day = 0; day < days; day++) {
                if (draws.draw(4) == 0) {
                    draws.draw(3);
                }
                for (int m = 0; m < 2; m++) {
                    if (draws.draw(20) != 0 && draws.draw(3) == 0) {
                        int p = draws.draw(3);
                        if (m == 0) {
                            place = p == 2 ? place : p;
                        } else if (day > 0) {
                            other = p == 2 ? other : p;
                        }
                    }
                }
            }
            Check.due("drawn", x.drawn(days, seed), days);
            Check.due("PLACE by seed " + seed, x.man(0, 0), place);
            Check.due("PLACE of him who went on DAY 0 by seed " + seed, x.man(1, 0), other);
            Check.due("a new DAY", x.man(0, 4), 0);
            went += place;
        }
        Check.due("some went", went > 0 && went < 90, true);
    }

    // ---- a new LAND; a call that throws

    private static void newLand() {
        edge("A new LAND: DAY 0, no SENTENCE.");
        ReadBound x = Check.land(Check.LAND);
        Check.sentenceOf(x, "free");
        x.act(0, 0);
        x.wear(0, 1);
        x.rain(3);
        x.days(3);
        Check.due("the same LAND anew", Check.landOf(x, Check.LAND), 21);
        Check.due("DAY", x.now(0), 0);
        Check.due("no SENTENCE", x.said(NONE), NONE);
        Check.due("posts", x.now(1), 3);
        Check.due("DEEDS", x.now(2), 0);
        Check.due("blinkers", x.now(3), 0);
        Check.due("rains", x.now(4), 0);
        Check.due("PLACE", x.man(0, 0), 0);
        Check.due("words of a DAY ahead", x.words(0, 0), 0);
        Check.due("words of the beginning", x.forgets(1, 2), 10);
        Check.due("acts of another LAND can't be undone", x.undo(), NONE);
        x.days(1);
        Check.due("the round from its first PLACE on", x.man(0, 0), 1);
        // a LAND with a FAULT is none
        Check.sentenceOf(x, "free");
        Check.due("a FAULT", Check.landOf(x, "place"), -6);
        Check.due("DAY", x.now(0), 1);
        Check.due("SENTENCE", x.said(NONE), 3);
        Check.due("can be undone", x.undo(), 0);
        // an empty one is new, too
        Check.due("an empty LAND", x.land(), 0);
        Check.due("no SENTENCE", x.said(NONE), NONE);
        Check.due("PLACES", x.count(0), 0);
    }

    private static void throwing() {
        edge("A call that throws changes nothing.");
        ReadBound x = Check.land(Check.LAND);
        x.days(5);
        x.act(1, 0);
        x.way(0, 2, 0);
        x.posts(0, 1);
        x.reads(1);
        Check.diaryOf(x, "day 3;", 0);
        Check.sentenceOf(x, "free");
        Check.sentenceOf(x, "in x");
        x.image(0);
        x.feed(1, 2, 3, 4, 5);
        int[] ahead = all(x);
        Check.noMan(x, 3, 0);
        Check.noMan(x, 0, 6);
        Check.noMan(x, -1, -1);
        Check.noMan(x, Integer.MIN_VALUE, Integer.MAX_VALUE);
        int[] behind = all(x);
        for (int i = 0; i < ahead.length; i++) {
            Check.due("answer " + i, behind[i], ahead[i]);
        }
        Check.due("can be undone", x.undo(), 1);
        Check.due("DEEDS", x.now(2), 0);
    }

    private static int[] all(ReadBound x) {
        int[] answers = new int[80];
        int n = 0;
        for (int what = 0; what < 6; what++) {
            answers[n++] = x.now(what);
            answers[n++] = x.count(what);
            answers[n++] = x.told(what);
            answers[n++] = x.step(what);
            answers[n++] = x.said(what - 1);
            for (int m = 0; m < 3; m++) {
                answers[n++] = x.man(m, what);
                answers[n++] = what < 3 ? x.words(m, what) : x.forgets(m, what - 3);
            }
        }
        answers[n++] = x.fault();
        answers[n++] = x.posted();
        answers[n++] = x.surely();
        return answers;
    }
}
