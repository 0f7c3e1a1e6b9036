/** Promises 41 and 42: images. */
public final class ImageTest {
    private static final int NONE = ReadBound.NONE;

    public static void main(String[] args) {
        kept();
        places();
        otherLands();
        whatStays();
        Check.end();
    }

    private static void kept() {
        ReadBound x = Check.land(Check.LAND);
        Check.sentenceOf(x, "in a");
        x.days(1);
        x.go(0, 2);
        x.act(0, 1);
        x.wear(1, 1);
        x.rain(1);
        Check.due("image", x.image(0), true);
        Check.due("an image undoes nothing", x.undo(), 4);
        Check.due("restore", x.restore(0), true);
        Check.due("nothing can be undone", x.undo(), NONE);
        x.days(20);
        x.wear(1, 0);
        x.fever(1);
        x.post(0, 0);
        Check.sentenceOf(x, "in d");
        Check.due("restore", x.restore(0), true);
        Check.due("DAY", x.now(0), 1);
        Check.due("posts", x.now(1), 2);
        Check.due("DEEDS", x.now(2), 1);
        Check.due("blinkers", x.now(3), 2);
        Check.due("rains", x.now(4), 1);
        Check.due("PLACE", x.man(0, 0), 2);
        Check.due("went", x.man(0, 4), 1);
        Check.due("words", x.words(0, 0) * 100 + x.words(0, 1) * 10 + x.words(1, 2), 223);
        Check.due("forgets", x.forgets(1, 2), 9);
        Check.due("SENTENCE", x.said(NONE), 0);
        x.go(1, 0);
        Check.due("SENTENCE in a", x.said(0), 1);
        x.days(1);
        Check.due("the round goes on from there", x.man(0, 0), 2);
        Check.due("the image is as it was", x.restore(0), true);
        Check.due("DAY", x.now(0), 1);
    }

    private static void places() {
        ReadBound x = Check.land(Check.LAND);
        for (int bad : new int[] {-1, 2, Integer.MAX_VALUE, Integer.MIN_VALUE}) {
            Check.due("image(" + bad + ")", x.image(bad), false);
            Check.due("restore(" + bad + ")", x.restore(bad), false);
        }
        x.days(1);
        Check.due("nothing is kept", x.restore(0), false);
        Check.due("and can be undone", x.undo(), 0);
        x.days(1);
        x.image(0);
        Check.due("nothing is kept in 1", x.restore(1), false);
        x.days(1);
        x.image(1);
        x.days(1);
        Check.due("restore 0", x.restore(0), true);
        Check.due("DAY", x.now(0), 1);
        Check.due("restore 1", x.restore(1), true);
        Check.due("DAY", x.now(0), 2);
        x.days(5);
        x.image(0);
        x.restore(1);
        x.restore(0);
        Check.due("DAY", x.now(0), 7);
    }

    private static void otherLands() {
        ReadBound x = Check.land(Check.LAND);
        Check.sentenceOf(x, "free");
        x.image(1);
        Check.landOf(x, "place x;man m x 3;");
        x.image(0);
        Check.due("restore", x.restore(1), true);
        Check.due("LAND", x.count(0) * 1000 + x.count(1) * 100 + x.count(3) * 10 + x.count(4), 4433);
        Check.due("its names", Check.sentenceOf(x, "bound hush or may sing or in d"), 3);
        Check.due("its rounds", x.days(1), 1);
        Check.due("its rounds", x.man(0, 0), 1);
        Check.due("restore", x.restore(0), true);
        Check.due("LAND", x.count(0) * 1000 + x.count(1) * 100 + x.count(3) * 10 + x.count(4), 1001);
        Check.due("no SENTENCE was kept", x.said(NONE), NONE);
        Check.due("names of the other", Check.sentenceOf(x, "in d"), -4);
        Check.due("its own", Check.sentenceOf(x, "in x"), 1);
        x.restore(1);
        Check.due("SENTENCE", x.said(NONE), 3);
        ReadBound y = new ReadBound();
        Check.due("an empty LAND", y.image(0), true);
        Check.landOf(y, Check.LAND);
        Check.due("restored", y.restore(0), true);
        Check.due("PLACES", y.count(0), 0);
    }

    private static void whatStays() {
        ReadBound x = Check.land(Check.LAND);
        x.image(0);
        x.way(0, 2, 0);
        x.posts(0, 1);
        x.reads(1);
        Check.diaryOf(x, "day 9;", 0);
        Check.sentenceOf(x, "day");
        int posted = x.posted();
        x.feed(0, 0, 0, 0, 0);
        x.restore(0);
        Check.due("tape", x.count(5), 20);
        Check.due("step", x.step(0), 1);
        Check.due("posted", x.posted(), posted);
        Check.due("surely", x.surely(), 1);
        Check.due("told", x.told(2), 9);
        Check.due("fault", x.fault(), 1);
    }
}
