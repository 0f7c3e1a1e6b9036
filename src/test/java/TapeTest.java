/** Promises 1, 2, 3 and 43. */
public final class TapeTest {
    public static void main(String[] args) {
        newObject();
        feed();
        end();
        count();
        Check.end();
    }

    private static void newObject() {
        ReadBound x = new ReadBound();
        for (int what = 0; what <= 5; what++) {
            Check.due("count of a new object", x.count(what), 0);
        }
        Check.due("fault", x.fault(), 0);
        Check.due("day", x.now(0), 0);
        Check.due("said", x.said(ReadBound.NONE), ReadBound.NONE);
        Check.due("step", x.step(0), ReadBound.NONE);
        Check.due("posted", x.posted(), ReadBound.NONE);
        Check.due("surely", x.surely(), ReadBound.NONE);
        Check.due("told", x.told(0), ReadBound.NONE);
        Check.due("undo", x.undo(), ReadBound.NONE);
        Check.due("restore", x.restore(0) || x.restore(1), false);
        Check.due("land of an empty tape", x.land(), 0);
        Check.due("NONE", ReadBound.NONE, -1);
    }

    private static void feed() {
        ReadBound x = new ReadBound();
        // "place a;" by bytes, the highest of each number first
        Check.due("feed", x.feed(0x706c6163, 0x6520613b, 0, 0, 0), 20);
        x.end(8);
        Check.due("land", x.land(), 1);
        Check.due("the fifth number comes last", x.feed(0x20202020, 0x20202020, 0x20202020, 0x20202020, 0x20202058), 20);
        Check.due("land", x.land(), -1 - 19);
        for (int i = 1; i <= 47; i++) {
            Check.due("feed", x.feed(0, 0, 0, 0, 0), 20 * i);
        }
        Check.due("feed of a full tape", x.feed(0, 0, 0, 0, 0), ReadBound.NONE);
        Check.due("tape", x.count(5), 940);
        x.end(921);
        Check.due("feed beyond 940", x.feed(0, 0, 0, 0, 0), ReadBound.NONE);
        Check.due("tape stays", x.count(5), 921);
        x.end(920);
        Check.due("feed up to 940", x.feed(0, 0, 0, 0, 0), 940);
    }

    private static void end() {
        ReadBound x = new ReadBound();
        Check.due("end(0) of an empty tape", x.end(0), true);
        Check.due("end(1) of an empty tape", x.end(1), false);
        Check.due("end(-1)", x.end(-1), false);
        x.feed(0, 0, 0, 0, 0);
        Check.due("end(21)", x.end(21), false);
        Check.due("tape", x.count(5), 20);
        Check.due("end(-1)", x.end(-1), false);
        Check.due("end(20)", x.end(20), true);
        Check.due("end(7)", x.end(7), true);
        Check.due("tape", x.count(5), 7);
        Check.due("end(8)", x.end(8), false);
        Check.due("feed behind it", x.feed(0, 0, 0, 0, 0), 27);
        Check.due("end(min)", x.end(Integer.MIN_VALUE), false);
        Check.due("end(max)", x.end(Integer.MAX_VALUE), false);
    }

    private static void count() {
        ReadBound x = Check.land(Check.LAND);
        int[] due = {4, 4, 2, 3, 3, 0};
        for (int what = 0; what < due.length; what++) {
            Check.due("count(" + what + ")", x.count(what), due[what]);
        }
        Check.due("count(-1)", x.count(-1), ReadBound.NONE);
        Check.due("count(6)", x.count(6), ReadBound.NONE);
        Check.due("count(max)", x.count(Integer.MAX_VALUE), ReadBound.NONE);
        Check.due("count(min)", x.count(Integer.MIN_VALUE), ReadBound.NONE);
        x.feed(0, 0, 0, 0, 0);
        Check.due("count(5)", x.count(5), 20);
    }
}
