import java.util.ArrayList;
import java.util.List;
import java.util.NoSuchElementException;

/** What calls leave as it was, and bring back: refused ones, questions, undo(), restore(), a new LAND; "the latest" of a call. */
public final class LeaveTest {
    private static final int NONE = ReadBound.NONE;
    private static final String RICH = "place a;place b;place c;place d;place e;road a b;road b c;road c d;road d a;"
            + "deed beg;deed sing;deed dig;law tax 4 beg;law hush 6 sing beg;repeal calm 3 hush;law ebb 9 dig;"
            + "man joe a 2;man ida d 9;man duke c 0;man zed b 5;clerk ida duke;clerk zed joe;round joe b c d a;round zed a e b;"
            + "post tax b;post hush c;post calm d;post ebb a;";
    private static final String OTHER = "place e;place f;road e f;deed hum;law zeal 2 hum;man kim e 1;man bo f 2;clerk bo kim;"
            + "round kim f e;post zeal f;";
    private static final int[] FAR = {-1, -2, 6, 11, 64, 1000, Integer.MAX_VALUE, Integer.MIN_VALUE};

    private interface Step {
        Object on(ReadBound x);
    }

    public static void main(String[] args) {
        Check.due("a print tells", printOf(rich()).equals(printOf(new ReadBound())), false);
        for (Step step : refused()) {
            leaves("refused", step, true);
        }
        for (Step step : questions()) {
            leaves("a question", step, true);
        }
        for (Step step : tellers()) {
            leaves("what it tells alone is new", step, false);
        }
        undone();
        undoneLatest();
        restored();
        restoredLatest();
        newLand();
        faultyTexts();
        latest();
        Check.end();
    }

    // ---- what can be seen of an object without changing it

    /** All that is so: LAND, what acts and DAYS change, SENTENCE. (More calls than 512: README.md, choice 31.) */
    private static List<String> soOf(ReadBound x) {
        List<String> all = new ArrayList<>();
        for (int a = -1; a <= 6; a++) {
            all.add("one " + a + ": " + x.now(a) + " " + x.binds(a) + " " + x.barred(a) + " " + x.lifted(a) + " " + x.bound(a)
                    + " " + x.clerks(a) + " " + x.said(a) + " " + x.odds(a, 3, 17) + " " + (a == 5 ? 0 : x.count(a)));
            for (int b = -1; b <= 6; b++) {
                all.add("two " + a + " " + b + ": " + x.law(a, b) + " " + man(x, a, b) + " " + x.place(a, b) + " " + x.words(a, b)
                        + " " + x.state(a, b) + " " + x.forgets(a, b) + " " + x.meets(a, b) + " " + x.when(a, b, 12));
                all.add("boards " + a + " " + b + ": " + x.boards(a, b, 0) + " " + x.boards(a, b, 1) + " " + x.boards(a, b, 3));
            }
        }
        return all;
    }

    /** What calls told last. */
    private static List<String> toldOf(ReadBound x) {
        List<String> all = new ArrayList<>();
        for (int i = -1; i <= 10; i++) {
            all.add("step " + i + ": " + x.step(i) + ", told: " + x.told(i));
        }
        all.add("posted " + x.posted() + ", surely " + x.surely() + ", fault " + x.fault());
        return all;
    }

    /** What is so, as it is taken back act by act. */
    private static List<String> pastOf(ReadBound x) {
        List<String> all = new ArrayList<>();
        for (int i = 0; i < 9; i++) {
            all.add("undo " + x.undo());
            all.addAll(soOf(x));
        }
        return all;
    }

    private static List<String> imagesOf(ReadBound x) {
        List<String> all = new ArrayList<>();
        for (int k = 0; k <= 1; k++) {
            all.add("restore " + x.restore(k));
            all.addAll(soOf(x));
        }
        return all;
    }

    /** All of an object, whose past and images are used up by that. */
    private static List<String> printOf(ReadBound x) {
        List<String> all = new ArrayList<>(soOf(x));
        all.add("bytes " + x.count(5));
        all.addAll(toldOf(x));
        all.addAll(pastOf(x));
        all.addAll(imagesOf(x));
        return all;
    }

    private static int man(ReadBound x, int m, int what) {
        try {
            return x.man(m, what);
        } catch (NoSuchElementException e) {
            return -99;
        }
    }

    private static void alike(String what, List<String> got, List<String> want) {
        for (int i = 0; i < want.size() && i < got.size(); i++) {
            if (!got.get(i).equals(want.get(i))) {
                System.out.println(what + ": " + got.get(i) + ", due is " + want.get(i));
                Check.due(what + " is as it was", false, true);
                return;
            }
        }
        Check.due(what, got.size(), want.size());
    }

    // ---- objects

    /** An object with something in each of its corners: a past, an image, a SENTENCE, a tape, something told by each call. */
    private static ReadBound rich() {
        ReadBound x = Check.land(RICH);
        Check.sentenceOf(x, "not free or in b and words > 3");
        x.days(2);
        x.go(1, 2);
        x.act(2, 2);
        x.image(1);
        x.wear(2, 1);
        x.post(3, 2);
        x.days(1);
        x.rain(1);
        x.go(3, 0);
        x.way(1, 0, 0);
        x.posts(0, 2);
        x.reads(3);
        Check.diaryOf(x, "day 2;joe wears;joe wears;day 1;", 0);
        Check.sentenceOf(x, "free free");
        x.feed(0x706c6163, 0x6520613b, 0x20202020, 0x20202020, 0x20202020);
        return x;
    }

    private static void leaves(String what, Step step, boolean toldToo) {
        ReadBound x = rich();
        ReadBound y = rich();
        Object answer = step.on(x);
        String text = what + " (" + answer + ")";
        alike(text + " leaves what is so", soOf(x), soOf(y));
        Check.due(text + " leaves the tape", x.count(5), y.count(5));
        if (toldToo) {
            alike(text + " leaves what was told", toldOf(x), toldOf(y));
        }
        alike(text + " leaves the past", pastOf(x), pastOf(y));
        alike(text + " leaves the images", imagesOf(x), imagesOf(y));
    }

    /** A call that must be refused, by its answer. */
    private static Step refusedBy(String what, Object due, Step step) {
        return x -> {
            Object got = step.on(x);
            Check.due(what + " answered " + got + ", refused by " + due, got.equals(due), true);
            return what;
        };
    }

    private static List<Step> refused() {
        List<Step> all = new ArrayList<>();
        for (int far : FAR) {
            String f = "of " + far;
            all.add(refusedBy("go " + f, NONE, x -> x.go(far, 0)));
            all.add(refusedBy("go " + f, NONE, x -> x.go(0, far)));
            all.add(refusedBy("act " + f, NONE, x -> x.act(far, 0)));
            all.add(refusedBy("act " + f, NONE, x -> x.act(0, far)));
            all.add(refusedBy("wear " + f, NONE, x -> x.wear(far, 1)));
            all.add(refusedBy("wear " + f, NONE, x -> x.wear(0, far)));
            all.add(refusedBy("fever " + f, NONE, x -> x.fever(far)));
            all.add(refusedBy("post " + f, NONE, x -> x.post(far, 0)));
            all.add(refusedBy("post " + f, NONE, x -> x.post(0, far)));
            all.add(refusedBy("rain " + f, NONE, x -> x.rain(far)));
            all.add(refusedBy("way " + f, NONE, x -> x.way(far, 0, 0)));
            all.add(refusedBy("way " + f, NONE, x -> x.way(0, far, 0)));
            all.add(refusedBy("posts " + f, NONE, x -> x.posts(far, 1)));
            all.add(refusedBy("posts " + f, NONE, x -> x.posts(0, far)));
            all.add(refusedBy("odds " + f, NONE, x -> x.odds(far, 1, 1)));
            all.add(refusedBy("image " + f, false, x -> x.image(far)));
            all.add(refusedBy("restore " + f, false, x -> x.restore(far)));
            all.add(refusedBy("diary " + f, -1000, x -> x.diary(far)));
            all.add(refusedBy("man " + f, -99, x -> man(x, far, 0)));
            all.add(refusedBy("man " + f, -99, x -> man(x, 0, far)));
        }
        for (int bad : new int[] {0, -1, 61, Integer.MAX_VALUE, Integer.MIN_VALUE}) {
            all.add(refusedBy("days of " + bad, NONE, x -> x.days(bad)));
            all.add(refusedBy("drawn of " + bad, NONE, x -> x.drawn(bad, 5)));
            all.add(refusedBy("when of " + bad, NONE, x -> x.when(0, 0, bad)));
            all.add(refusedBy("odds of " + bad, NONE, x -> x.odds(0, bad == 61 ? 31 : bad, 5)));
        }
        for (int bad : new int[] {-1, 21, Integer.MAX_VALUE, Integer.MIN_VALUE}) {
            all.add(refusedBy("end of " + bad, false, x -> x.end(bad)));
        }
        for (int bits : new int[] {-1, 16, 1024, Integer.MIN_VALUE}) {
            all.add(refusedBy("way of LAWS " + bits, NONE, x -> x.way(0, 0, bits)));
            all.add(refusedBy("reads of DEEDS " + bits, NONE, x -> x.reads(bits)));
        }
        all.add(refusedBy("he went today", 1, x -> x.go(3, 1)));
        all.add(refusedBy("no road", 2, x -> x.go(0, 4)));
        all.add(refusedBy("he wears", 1, x -> x.wear(2, 1)));
        all.add(refusedBy("he wears none", 1, x -> x.wear(0, 0)));
        all.add(refusedBy("it is there", 1, x -> x.post(3, 2)));
        all.add(refusedBy("nothing is there", 1, x -> x.rain(1)));
        all.add(refusedBy("no WAY", NONE, x -> x.way(1, 4, 0)));
        all.add(refusedBy("no sets", 0, x -> x.reads(2)));
        all.add(refusedBy("nothing is kept", false, x -> x.restore(0)));
        return all;
    }

    /** Calls that tell something and leave all as it is. */
    private static List<Step> questions() {
        List<Step> all = new ArrayList<>();
        all.add(LeaveTest::soOf);
        all.add(LeaveTest::toldOf);
        all.add(x -> "meets " + x.meets(1, 0));
        all.add(x -> "boards " + x.boards(0, 2, 3));
        all.add(x -> "when " + x.when(0, 1, 60));
        all.add(x -> "odds " + x.odds(0, 30, 99));
        return all;
    }

    /** Calls that change what is told of their latest, and nothing else. */
    private static List<Step> tellers() {
        List<Step> all = new ArrayList<>();
        all.add(x -> "way " + x.way(1, 1, 0));
        all.add(x -> "posts " + x.posts(1, 3));
        all.add(x -> "reads " + x.reads(1));
        all.add(x -> {
            x.end(0);
            Check.tape(x, "day 9;ida goes d;rains c;duke bares;duke does beg;posts calm a;zed fevers;day 60;");
            int wrong = x.diary(0);
            x.feed(0, 0, 0, 0, 0);
            return "diary(0) " + wrong;
        });
        return all;
    }

    // ---- undo()

    private static List<Step> acts() {
        List<Step> all = new ArrayList<>();
        all.add(x -> x.go(1, 1));
        all.add(x -> x.act(2, 0));
        all.add(x -> x.wear(0, 1));
        all.add(x -> x.wear(2, 0));
        all.add(x -> x.fever(1));
        all.add(x -> x.post(2, 2));
        all.add(x -> x.rain(2));
        all.add(x -> x.days(60) - 60);
        all.add(x -> x.drawn(60, 3) - 60);
        all.add(x -> {
            x.end(0);
            int none = Check.diaryOf(x, "ida wears;day 12;ida bares;day 1;", 1);
            x.feed(0, 0, 0, 0, 0);
            return none + 1;
        });
        return all;
    }

    private static void undone() {
        for (Step act : acts()) {
            ReadBound x = rich();
            ReadBound y = rich();
            Check.due("it is done: " + act.on(x), soOf(x).equals(soOf(y)), false);
            // the oldest of the eight of rich() made room for this one
            for (int left = 7; left >= 0; left--) {
                Check.due("undo", x.undo(), left);
                alike("undone, " + left + " more", soOf(x), soOf(y));
                Check.due("the tape stays", x.count(5), 20);
                y.undo();
            }
            Check.due("no more", x.undo(), NONE);
        }
    }

    private static void undoneLatest() {
        for (Step act : acts()) {
            ReadBound x = rich();
            List<String> before = toldOf(x);
            act.on(x);
            x.end(0);
            Check.sentenceOf(x, "number < 3");
            x.way(3, 1, 0);
            x.reads(0);
            x.posts(2, 1);
            List<String> told = toldOf(x);
            Check.due("told anew", told.equals(before), false);
            x.undo();
            alike("told stays behind undo()", toldOf(x), told);
            Check.due("the SENTENCE stays", x.said(NONE), 3);
        }
    }

    // ---- images

    private static void restored() {
        ReadBound x = rich();
        ReadBound y = rich();
        Check.due("image", x.image(0), true);
        List<String> so = soOf(y);
        alike("image() leaves what is so", soOf(x), so);
        x.days(30);
        x.fever(1);
        x.end(0);
        Check.sentenceOf(x, "blind");
        Check.landOf(x, OTHER);
        x.go(0, 1);
        Check.sentenceOf(x, "number = 1");
        x.feed(0, 0, 0, 0, 0);
        x.end(13);
        Check.due("restore", x.restore(0), true);
        alike("restored", soOf(x), so);
        Check.due("the tape stays", x.count(5), 13);
        Check.due("nothing can be undone", x.undo(), NONE);
        // what is lived from there on goes as it would have gone
        y.days(25);
        x.days(25);
        alike("goes on", soOf(x), soOf(y));
        Check.due("that can be undone", x.undo(), 0);
        alike("undone", soOf(x), so);
        // NAMES of the restored LAND are those of the texts
        x.end(0);
        Check.due("a DIARY of it", Check.diaryOf(x, "zed wears;posts ebb e;", 0), NONE);
        Check.due("a SENTENCE of it", Check.sentenceOf(x, "bound ebb or may dig or in e"), 3);
        Check.due("none of the other", Check.diaryOf(x, "kim wears;", 0), -2);
        Check.due("the other image is its own", x.restore(1), true);
        Check.due("kept on DAY 2", x.now(0), 2);
        Check.due("the first again", x.restore(0), true);
        alike("restored again", soOf(x), so);
    }

    private static void restoredLatest() {
        ReadBound x = rich();
        x.image(0);
        Check.landOf(x, OTHER);
        x.end(0);
        Check.landOf(x, OTHER);
        x.way(0, 1, 0);
        x.reads(1);
        x.posts(0, 2);
        Check.diaryOf(x, "kim goes e;", 1);
        Check.sentenceOf(x, "bound kim");
        List<String> told = toldOf(x);
        x.restore(0);
        alike("told stays behind restore()", toldOf(x), told);
        ReadBound y = new ReadBound();
        y.image(0);
        Check.landOf(y, RICH);
        Check.sentenceOf(y, "free");
        y.days(7);
        Check.due("an empty LAND is kept, too", y.restore(0), true);
        alike("empty", soOf(y), soOf(new ReadBound()));
    }

    // ---- a new LAND

    private static void newLand() {
        ReadBound x = rich();
        List<String> images = imagesOf(rich());
        List<String> told = toldOf(x);
        x.end(0);
        Check.due("a new LAND", Check.landOf(x, OTHER), 10);
        alike("as in a new object", soOf(x), soOf(Check.land(OTHER)));
        Check.due("no SENTENCE", x.said(NONE), NONE);
        Check.due("no FAULT", x.fault(), 0);
        Check.due("the tape is empty", x.count(5), 0);
        told.set(told.size() - 1, told.get(told.size() - 1).replace("fault 1", "fault 0"));
        alike("told stays behind land()", toldOf(x), told);
        Check.due("nothing can be undone", x.undo(), NONE);
        Check.due("nothing was kept there", x.restore(0), false);
        Check.due("the image stays", x.restore(1), true);
        images = images.subList(images.size() - soOf(x).size(), images.size());
        alike("as kept", soOf(x), images);
    }

    private static void faultyTexts() {
        for (Step text : new Step[] {ReadBound::land, ReadBound::sentence, x -> x.diary(0), x -> x.diary(1)}) {
            ReadBound x = rich();
            ReadBound y = rich();
            x.end(0);
            Check.tape(x, "place a;place b;place b;");
            Check.due("a FAULT", (int) text.on(x) < -1 || x.fault() == 1, true);
            Check.due("its kind", x.fault() == 1 || x.fault() == 3, true);
            Check.due("the tape is empty", x.count(5), 0);
            alike("a FAULT leaves what is so", soOf(x), soOf(y));
            List<String> got = toldOf(x);
            List<String> want = toldOf(y);
            alike("a FAULT leaves what was told", got.subList(0, got.size() - 1), want.subList(0, want.size() - 1));
            alike("a FAULT leaves the past", pastOf(x), pastOf(y));
            alike("a FAULT leaves the images", imagesOf(x), imagesOf(y));
        }
    }

    // ---- the latest

    private static void latest() {
        ReadBound x = Check.land(RICH);
        Check.due("way", x.way(0, 2, 0), 2);
        Check.due("its first", x.step(0), 1);
        Check.due("none", x.way(0, 4, 0), NONE);
        Check.due("stays", x.step(1), 2);
        Check.due("no step", x.way(0, 0, 0), 0);
        Check.due("the latest has none", x.step(0), NONE);
        Check.due("posts", x.posts(0, 1) > 0, true);
        int posted = x.posted();
        Check.due("posts", x.posts(9, 1), NONE);
        Check.due("stays", x.posted(), posted);
        Check.due("reads", x.reads(1), 1);
        Check.due("surely", x.surely(), 1);
        Check.due("none", x.reads(2), 0);
        Check.due("stays", x.surely(), 1);
        Check.due("no such", x.reads(8), NONE);
        Check.due("stays", x.surely(), 1);
        Check.due("diary", Check.diaryOf(x, "joe bares;", 0), 0);
        Check.due("told", x.told(0), 31);
        Check.due("a FAULT", Check.diaryOf(x, "joe bares", 0), -11);
        Check.due("stays", x.told(0), 31);
        Check.due("another lives", Check.diaryOf(x, "joe wears", 2), -1000);
        Check.due("stays", x.told(0), 31);
        Check.due("the FAULT, too", x.fault(), 1);
        Check.due("the tape, too", x.count(5), 9);
        x.end(0);
        Check.due("diary", Check.diaryOf(x, "joe wears;", 1), NONE);
        Check.due("told", x.told(0), 0);
        Check.due("no FAULT", x.fault(), 0);
    }
}
