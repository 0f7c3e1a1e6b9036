import java.nio.charset.StandardCharsets;
import java.nio.file.Files;
import java.nio.file.Paths;
import java.util.Set;
import java.util.TreeSet;
import java.util.regex.Matcher;
import java.util.regex.Pattern;

/** README.md tells how the class answers where the document's words leave a choice: a test for each, by its number. */
public final class ChoiceTest {
    private static final int NONE = ReadBound.NONE;
    private static final Set<Integer> TESTED = new TreeSet<>();
    private static int choice;

    public static void main(String[] args) throws Exception {
        numberWithZero();
        noTokens();
        toldWordAsName();
        toldAhead();
        oneTooMany();
        tooManyBytes();
        notForbidden();
        within();
        newLand();
        sightZero();
        dayOfMaster();
        postedByNumbers();
        repeals();
        goWhereHeIs();
        lastDay();
        postsThatStand();
        diaryForUndo();
        wayOfNoStep();
        meets();
        boardsWithoutWay();
        posts();
        setOfNoLaws();
        when();
        nearTheEnd();
        ringOfClerks();
        drawOfThree();
        linesFromZero();
        dayLine();
        toldLines();
        images();
        manyCalls();
        Check.due("choices of README.md without a test, or the other way round: " + numbers() + TESTED, numbers().equals(TESTED), true);
        Check.end();
    }

    private static void choice(int number) {
        choice = number;
        TESTED.add(number);
    }

    private static void due(String what, long got, long want) {
        Check.due("choice " + choice + ": " + what, got, want);
    }

    private static Set<Integer> numbers() throws Exception {
        String text = new String(Files.readAllBytes(Paths.get("README.md")), StandardCharsets.UTF_8);
        String part = text.split("## Where the document's words leave a choice")[1].split("\n## ")[0];
        Set<Integer> numbers = new TreeSet<>();
        Matcher found = Pattern.compile("(?m)^(\\d+)\\. ").matcher(part);
        while (found.find()) {
            numbers.add(Integer.parseInt(found.group(1)));
        }
        return numbers;
    }

    private static void pass(ReadBound x, int days) {
        for (int left = days; left > 0; left -= 60) {
            x.days(Math.min(left, 60));
        }
    }

    private static void landFault(String text, int place, int kind) {
        ReadBound x = new ReadBound();
        due(text, Check.landOf(x, text), -1 - place);
        due("fault of " + text, x.fault(), kind);
    }

    private static void diaryFault(ReadBound x, String text, int place, int kind) {
        due(text, Check.diaryOf(x, text, 0), -2 - place);
        due("fault of " + text, x.fault(), kind);
    }

    private static void sentenceFault(ReadBound x, String text, int place, int kind) {
        due(text, Check.sentenceOf(x, text), -1 - place);
        due("fault of " + text, x.fault(), kind);
    }

    // ---- texts

    private static void numberWithZero() {
        choice(1);
        ReadBound x = Check.land("place a;deed d;law l 07 d;man m a 03;");
        due("LENGTH 07", x.law(0, 0), 7);
        due("SIGHT 03", x.man(0, 1), 3);
        landFault("deed d;law l 00 d;", 13, 2);
        due("day 05", Check.diaryOf(x, "day 05;", 1), NONE);
        due("five DAYS", x.now(0), 5);
    }

    private static void noTokens() {
        choice(2);
        for (String text : new String[] {"", " ", "\n \n"}) {
            ReadBound x = Check.land("place a;man m a 1;");
            sentenceFault(x, text, text.length(), 1);
            due("a DIARY", Check.diaryOf(x, text, 1), NONE);
            due("no FAULT", x.fault(), 0);
            due("no LINES", x.told(1), 0);
            due("a LAND", Check.landOf(x, text), 0);
            due("no FAULT", x.fault(), 0);
            due("no PLACES", x.count(0), 0);
        }
    }

    private static void toldWordAsName() {
        choice(3);
        for (String word : "place road deed law repeal man round clerk post goes does wears bares fevers posts rains day or and not blind free bound may in sight words did number".split(" ")) {
            landFault("place " + word + ";", 6, 1);
            landFault("place a;road a " + word + ";", 15, 1);
            ReadBound x = Check.land("place a;man m a 1;");
            diaryFault(x, "m goes " + word + ";", 7, 1);
            sentenceFault(x, "in " + word, 3, 1);
        }
    }

    private static void toldAhead() {
        choice(4);
        landFault("place a;road a b;place b;", 15, 3);
        landFault("man m a 1;place a;", 6, 3);
        landFault("law l 1 d;deed d;", 8, 3);
        landFault("repeal r 1 l;deed d;law l 1 d;", 11, 3);
        landFault("place a;round m a;man m a 1;", 14, 3);
        landFault("place a;man m a 1;clerk m n;man n a 1;", 26, 3);
        landFault("place a;post l a;deed d;law l 1 d;", 13, 3);
        landFault("law a 1 a;", 8, 3);
        landFault("repeal r 1 r;", 11, 3);
        landFault("man m m 1;", 6, 3);
    }

    private static void oneTooMany() {
        choice(5);
        String ten = "place a;place b;place c;place d;place e;place f;place g;place h;place i;place j;";
        landFault(ten + "place 7", ten.length(), 4);
        landFault(ten + "place a;", ten.length(), 4);
        landFault(ten + "place", ten.length(), 4);
        landFault("deed q;deed r;deed s;deed t;deed u;deed deed;", 35, 4);
        String laws = "deed d;" + "law l 1 d;law m 1 d;law n 1 d;law o 1 d;law p 1 d;law q 1 d;";
        landFault(laws + "repeal r 0 x;", laws.length(), 4);
        ReadBound x = Check.land("place a;man m a 1;");
        String forty = Check.times("day 1;", 40);
        diaryFault(x, forty + "day 61;", 240, 4);
        diaryFault(x, forty + "m goes m;", 240, 4);
        diaryFault(x, forty + "n wears;", 240, 3);
        diaryFault(x, forty + "a wears;", 240, 3);
        diaryFault(x, forty + "goes a;", 240, 1);
        String eight = "place a;man m a 1;round m a a a a a a a a ";
        landFault(eight + "a;", eight.length(), 4);
        landFault(eight + "m;", eight.length(), 3);
        landFault(eight + "z;", eight.length(), 3);
        landFault(eight + "9;", eight.length(), 1);
    }

    private static void tooManyBytes() {
        choice(6);
        landFault("place a;" + Check.times(" ", 893), 900, 1);
        due("900 bytes", Check.landOf(new ReadBound(), "place a;" + Check.times(" ", 892)), 1);
        ReadBound x = Check.land("place a;man m a 1;");
        diaryFault(x, "day 1;" + Check.times("\n", 395), 400, 1);
        due("400 bytes", Check.diaryOf(x, "day 1;" + Check.times("\n", 394), 0), NONE);
        sentenceFault(x, "blind" + Check.times(" ", 196), 200, 1);
        due("200 bytes", Check.sentenceOf(x, "blind" + Check.times(" ", 195)), 1);
    }

    private static void notForbidden() {
        choice(7);
        ReadBound x = Check.land("place a;place b;place c;road a b;deed d;law l 4 d;repeal r 1 l;repeal s 1 l;"
                + "man m a 1;man n a 1;man o a 1;round m a a b b c a;clerk m o;clerk n o;clerk o m;post r c;post s b;");
        due("two repeals", x.law(1, 2) == 0 && x.law(2, 2) == 0 ? 1 : 0, 1);
        due("two clerks", x.clerks(2) & 3, 3);
        int[] due = {0, 0, 1, 1, 1, 0, 0};
        for (int day = 0; day < due.length; day++) {
            x.days(1);
            due("DAY " + (day + 1), x.man(0, 0), due[day]);
        }
    }

    private static void within() {
        choice(8);
        ReadBound x = Check.land("place a;man m a 1;");
        due("8 within", Check.sentenceOf(x, Check.times("not ", 7) + "blind"), 8);
        due("8 within", Check.sentenceOf(x, Check.times("(", 7) + "blind" + Check.times(")", 7)), 8);
        sentenceFault(x, Check.times("not ", 8) + "blind", 32, 4);
        sentenceFault(x, Check.times("(", 8) + "blind" + Check.times(")", 8), 8, 4);
        sentenceFault(x, Check.times("not(", 4) + "free" + Check.times(")", 4), 16, 4);
    }

    private static void newLand() {
        choice(9);
        String text = "place a;place b;road a b;deed d;law l 2 d;man m a 2;post l b;";
        ReadBound x = Check.land(text);
        due("way", x.way(0, 1, 0), 1);
        due("posts", x.posts(0, 1), 1);
        due("reads", x.reads(1), 1);
        due("diary", Check.diaryOf(x, "m goes b;m goes a;", 0), 1);
        due("go", x.go(0, 1), 0);
        due("act", x.wear(0, 1), 0);
        x.image(1);
        due("a FAULT", Check.landOf(x, "place a;place a;"), -15);
        due("undo", x.undo(), 1);
        due("a new one", Check.landOf(x, "place q;"), 1);
        due("nothing to undo", x.undo(), NONE);
        due("step", x.step(0), 1);
        due("posted", x.posted(), 1);
        due("surely", x.surely(), 1);
        due("told", x.told(0), 1);
        due("restore", x.restore(1) ? 1 : 0, 1);
        due("as kept", x.count(0), 2);
        due("blinkers", x.now(3), 1);
    }

    // ---- reading, acts, DAYS

    private static void sightZero() {
        choice(10);
        ReadBound x = Check.land("place a;deed d;law l 4 d;man m a 2;man n a 0;clerk m n;post l a;");
        x.wear(0, 1);
        x.days(6);
        due("read on DAY 0", x.forgets(1, 0), 4);
        x.wear(1, 1);
        x.wear(1, 0);
        due("read on DAY 6", x.forgets(1, 0), 10);
        due("no words more", x.words(1, 0), 2);
    }

    private static void dayOfMaster() {
        choice(11);
        ReadBound x = Check.land("place a;place b;deed d;law l 9 d;man n b 8;man m a 2;clerk m n;post l a;post l b;");
        x.days(3);
        x.wear(0, 1);
        due("read on DAY 0", x.forgets(0, 0), 7);
        x.wear(1, 1);
        x.wear(1, 0);
        due("the clerk's words", x.words(1, 0), 4);
        due("his own", x.words(0, 0), 8);
        due("read on DAY 3, too", x.forgets(0, 0), 10);
        for (int i = 0; i < 3; i++) {
            x.wear(1, 1);
            x.wear(1, 0);
        }
        due("with blinkers he has them, too", x.words(0, 0), 9);
    }

    private static void postedByNumbers() {
        choice(12);
        ReadBound x = Check.land("place a;deed d;law l 9 d;man m a 3;man n a 2;clerk m n;");
        x.post(0, 0);
        due("the clerk reads ahead of him: 3, and 2 more", x.words(1, 0), 5);
        ReadBound y = Check.land("place a;deed d;law l 9 d;man n a 2;man m a 3;clerk m n;");
        y.post(0, 0);
        due("the clerk reads behind him: 2, then 3", y.words(0, 0), 3);
    }

    private static void repeals() {
        choice(13);
        ReadBound x = Check.land("place a;deed d;law l 4 d;repeal r 3 l;man m a 2;post r a;");
        due("words", x.words(0, 1), 2);
        due("STATE", x.state(0, 1), 1);
        due("posts", x.law(1, 3), 1);
        due("forgets", x.forgets(0, 1), 10);
        due("a SENTENCE", Check.sentenceOf(x, "words = 2"), 1);
        due("said", x.said(NONE), 1);
        due("binds nobody", x.bound(1), 0);
        due("a FEVER", x.fever(0), 0);
        due("no words", x.words(0, 1), 0);
    }

    private static void goWhereHeIs() {
        choice(14);
        ReadBound x = Check.land("place a;place b;road a b;man m a 1;");
        due("where he is", x.go(0, 0), 2);
        x.go(0, 1);
        due("he went", x.go(0, 1), 1);
    }

    private static void lastDay() {
        choice(15);
        ReadBound x = Check.land("place a;place b;road a b;deed d;law l 4 d;law k 9 d;man m a 2;man n b 9;round m b a;post l a;post l b;post k b;");
        pass(x, 390);
        due("DAY", x.now(0), 390);
        x.wear(1, 1);
        x.wear(1, 0);
        due("n reads k", x.words(1, 1), 9);
        x.wear(1, 1);
        due("to DAY 399", x.days(9), 9);
        due("m is at b on odd DAYS", x.man(0, 0), 1);
        due("the last", x.days(1), 1);
        due("DAY 400", x.now(0), 400);
        due("n forgot k at the end of DAY 399", x.words(1, 1), 0);
        due("m came to a", x.man(0, 0), 0);
        due("forgets", x.forgets(0, 0), 10);
        due("he goes", x.go(0, 1), 0);
        due("he went", x.go(0, 0), 1);
        due("no DAY more", x.days(1), 0);
        due("rain", x.rain(0), 0);
        due("post", x.post(1, 0), 0);
    }

    private static void postsThatStand() {
        choice(16);
        ReadBound x = Check.land("place a;place b;deed d;law l 4 d;law k 4 d;post l a;post k a;post k b;");
        due("posts", x.now(1), 3);
        x.rain(0);
        due("behind rain", x.now(1), 1);
        x.post(0, 0);
        due("one more", x.now(1), 2);
    }

    private static void diaryForUndo() {
        choice(17);
        ReadBound x = Check.land("place a;place b;road a b;deed d;law l 4 d;man m a 2;");
        due("go", x.go(0, 1), 0);
        due("WRONG at once", Check.diaryOf(x, "m goes a;", 1), 0);
        due("without LINES", Check.diaryOf(x, "", 1), NONE);
        due("judged alone", Check.diaryOf(x, "m wears;", 0), NONE);
        due("a FAULT", Check.diaryOf(x, "m wears", 1), -9);
        due("a SENTENCE", Check.sentenceOf(x, "in b"), 1);
        due("way", x.way(0, 0, 0), 1);
        x.feed(0, 0, 0, 0, 0);
        due("undo", x.undo(), 2);
        due("undo", x.undo(), 1);
        due("he is at b still", x.man(0, 0), 1);
        due("undo", x.undo(), 0);
        due("he is at a", x.man(0, 0), 0);
        due("no more", x.undo(), NONE);
        due("the tape", x.count(5), 20);
        due("the SENTENCE", x.said(NONE), 0);
        due("step", x.step(0), 0);
        due("told", x.told(1), 1);
    }

    // ---- ways, boards, posts

    private static void wayOfNoStep() {
        choice(18);
        ReadBound x = Check.land("place a;place b;road a b;deed d;law l 4 d;man m a 2;post l a;post l b;");
        due("to where he is", x.way(0, 0, 1), 0);
        due("no step", x.step(0), NONE);
        due("to b", x.way(0, 1, 1), NONE);
        due("meets", x.meets(0, 0), 0);
    }

    private static void meets() {
        choice(19);
        ReadBound x = Check.land("place a;place b;place c;place d;road a c;road a b;road c d;road b d;deed z;"
                + "law l 2 z;law k 3 z;law j 9 z;man m a 2;post l a;post l b;post k a;post k b;post j c;");
        due("way", x.way(0, 2, 0), 1);
        due("by b; l is had, k not", x.meets(0, 3), 2);
        due("step stays", x.step(0), 2);
    }

    private static void boardsWithoutWay() {
        choice(20);
        ReadBound x = Check.land("place a;place b;place c;road b c;deed d;law l 4 d;");
        due("no way", x.boards(0, 1, 0), 0);
        due("a road", x.boards(1, 2, 0), NONE);
    }

    private static void posts() {
        choice(21);
        ReadBound x = Check.land("place a;place b;deed d;law l 4 d;man m a 2;man n b 3;post l a;");
        due("a is posted; most are none", x.posts(0, 1), 1);
        due("nobody reads by it", x.posted(), 0);
        due("both PLACES", x.posts(0, 2), 3);
        due("more than PLACES", x.posts(0, 3), NONE);
        due("none is posted", x.law(0, 3), 1);
        // m by a has 4, so that n, for whom he reads, has 4 and then reads himself; by b first n would have 2 less
        ReadBound y = Check.land("place a;place b;deed d;law l 6 d;man n b 2;man m a 4;clerk m n;");
        due("by numbers", y.posts(0, 2), 3);
        due("4, then 2 more", y.posted(), 1);
    }

    private static void setOfNoLaws() {
        choice(22);
        ReadBound x = Check.land("deed d;law l 4 d;repeal r 1 l;");
        due("no DEED", x.reads(0), 1);
        due("none surely", x.surely(), 0);
        due("in an empty LAND", new ReadBound().reads(0), 1);
    }

    private static void when() {
        choice(23);
        ReadBound x = Check.land("place a;place b;road a b;deed d;law l 2 d;law k 4 d;man m a 2;round m a b;post l b;post k a;");
        due("today", x.when(0, 1, 1), 0);
        due("by the round of DAY 2", x.when(0, 0, 2), 2);
        due("one DAY is too few", x.when(0, 0, 1), NONE);
        ReadBound y = Check.land("place a;place b;road a b;deed d;law l 2 d;man m a 2;round m a b;");
        pass(y, 390);
        y.days(9);
        y.post(0, 1);
        due("DAY 400", y.when(0, 0, 1), 400);
        due("in 60", y.when(0, 0, 60), 400);
        y.days(1);
        due("on it", y.when(0, 0, 1), 400);
    }

    private static void nearTheEnd() {
        choice(24);
        ReadBound x = Check.land("place a;place b;road a b;deed d;law l 4 d;man m a 1;round m a b;post l a;");
        pass(x, 397);
        x.rain(0);
        x.fever(0);
        due("a word now, and one on each of the 3 DAYS left", x.posts(0, 2), 3);
        due("he has all", x.posted(), 1);
        due("by one board two words; four, if 7 DAYS were left", x.posts(0, 1), 1);
        due("nobody has all", x.posted(), 0);
        ReadBound y = Check.land("place a;deed d;law l 1 d;man m a 1;");
        pass(y, 395);
        y.post(0, 0);
        int fevers = 0;
        for (int seed = 40; seed < 70; seed++) {
            fevers += hasFever(seed, 5);
        }
        due("in 5 DAYS by a fever alone; behind 20 it were forgotten", y.odds(0, 30, 40), fevers);
        due("some have none", fevers < 30 ? 1 : 0, 1);
        due("all stays", y.now(0), 395);
    }

    /** Whether the one MAN of a LAND of one PLACE, who has words of a LAW, has a fever by a seed: 1 or 0. */
    private static int hasFever(int seed, int days) {
        int[] x = {seed};
        for (int day = 0; day < days; day++) {
            if (next(x, 4) == 0) {
                next(x, 1);
            }
            if (next(x, 20) == 0) {
                return 1;
            }
            if (next(x, 3) == 0) {
                next(x, 1);
            }
        }
        return 0;
    }

    private static void ringOfClerks() {
        choice(25);
        ReadBound x = Check.land("place a;man m a 1;man n a 1;man o a 1;man p a 1;clerk m n;clerk n o;clerk o m;clerk p m;");
        due("in the ring", x.clerks(0), 15);
        due("in the ring", x.clerks(1), 15);
        due("out of it", x.clerks(3), 0);
    }

    // ---- draws, diaries, sentences, images

    /** A draw by the document's words, apart from the class. */
    private static int next(int[] x, int n) {
        x[0] = x[0] * 1103515245 + 12345;
        return (x[0] >>> 8) % n;
    }

    private static void drawOfThree() {
        choice(26);
        int found = 0;
        for (int seed = 0; seed < 2000 && found < 5; seed++) {
            // a seed by which the first MAN, who has no words, would have a fever, and one draw more would move the second
            int[] x = {seed};
            if (next(x, 4) == 0) {
                next(x, 2);
            }
            if (next(x, 20) != 0) {
                continue;
            }
            int second = 0;
            if (next(x, 20) != 0 && next(x, 3) == 0) {
                second = next(x, 2);
            }
            ReadBound y = Check.land("place a;place b;road a b;man m a 1;man n a 1;");
            due("drawn", y.drawn(1, seed), 1);
            due("no fever, and no going", y.man(0, 0), 0);
            due("the second by seed " + seed, y.man(1, 0), second);
            found += second;
        }
        due("seeds that move the second", found, 5);
    }

    private static void linesFromZero() {
        choice(27);
        ReadBound x = Check.land("place a;man m a 1;man n a 1;");
        due("the first", Check.diaryOf(x, "rains a;", 0), 0);
        due("the second", Check.diaryOf(x, "m wears;rains a;", 0), 1);
        Check.sentenceOf(x, "not number = 0");
        due("k 0", x.said(0), 1);
        due("k 1", x.said(1), NONE);
        due("k below NONE", x.said(-2), NONE);
    }

    private static void dayLine() {
        choice(28);
        ReadBound x = new ReadBound();
        pass(x, 390);
        due("11 DAYS of 10", Check.diaryOf(x, "day 3;day 8;", 1), 1);
        due("why", x.told(0), 71);
        due("three are lived", x.now(0), 393);
        due("just as many", Check.diaryOf(x, "day 7;", 1), NONE);
        due("all are over", x.now(0), 400);
        due("one more", Check.diaryOf(x, "day 1;", 1), 0);
    }

    private static void toldLines() {
        choice(29);
        ReadBound x = Check.land("place a;man m a 1;");
        due("LINE 1", Check.diaryOf(x, "m wears;m wears;m bares;day 1;", 0), 1);
        due("ahead of it", x.told(1), 1);
        due("none", Check.diaryOf(x, "m wears;m bares;day 1;", 0), NONE);
        due("all", x.told(1), 3);
    }

    private static void images() {
        choice(30);
        ReadBound x = Check.land("place a;man m a 1;");
        x.wear(0, 1);
        due("image", x.image(0) ? 1 : 0, 1);
        due("undo", x.undo(), 0);
        due("bare", x.now(3), 0);
        for (int i = 0; i < 2; i++) {
            due("restore", x.restore(0) ? 1 : 0, 1);
            due("as kept", x.now(3), 1);
            x.wear(0, 0);
        }
        x.days(2);
        x.image(0);
        x.days(2);
        x.restore(0);
        due("kept anew", x.now(0), 2);
        due("kept anew", x.now(3), 0);
    }

    private static void manyCalls() {
        choice(31);
        ReadBound x = Check.land("place a;deed d;man m a 1;");
        for (int i = 1; i <= 600; i++) {
            x.act(0, 0);
        }
        due("DEEDS", x.man(0, 5), 600);
        due("undo", x.undo(), 7);
    }
}
