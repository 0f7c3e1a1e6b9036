/** Promises 31 to 34: sets of LAWS by what he does not do, when a LAW binds, who reads for whom. */
public final class MindTest {
    private static final int NONE = ReadBound.NONE;

    public static void main(String[] args) {
        reads();
        when();
        clerks();
        Check.end();
    }

    private static void reads() {
        ReadBound x = Check.land("deed a;deed b;deed c;law k 1 a;repeal r 1 k;law l 1 a b;law m 1 b;law n 1 c;");
        Check.due("ahead of any", x.surely(), NONE);
        Check.due("b c", x.reads(6), 1);
        Check.due("m n", x.surely(), 8 + 16);
        // l; l k; l m; k m; k l m
        Check.due("a b", x.reads(3), 5);
        Check.due("none of them in each", x.surely(), 0);
        Check.due("a b c", x.reads(7), 5);
        Check.due("n in each", x.surely(), 16);
        Check.due("nothing", x.reads(0), 1);
        Check.due("no LAW", x.surely(), 0);
        Check.due("a", x.reads(1), 1);
        Check.due("k", x.surely(), 1);
        for (int bad : new int[] {-1, 8, 32, Integer.MAX_VALUE, Integer.MIN_VALUE}) {
            Check.due("reads", x.reads(bad), NONE);
        }
        Check.due("stays", x.surely(), 1);
        ReadBound y = Check.land("deed a;deed b;law l 1 a b;");
        Check.due("none forbids a alone", y.reads(1), 0);
        Check.due("ahead of any of 1 or more", y.surely(), NONE);
        Check.due("both", y.reads(3), 1);
        Check.due("l", y.surely(), 1);
        Check.due("none", y.reads(2), 0);
        Check.due("stays", y.surely(), 1);
    }

    private static void when() {
        ReadBound x = Check.land(Check.LAND);
        // joe comes to b on DAYS 1 and 5: 2 words of 4, half binds on even DAYS
        Check.due("tax", x.when(0, 0, 60), 2);
        Check.due("in 2 DAYS", x.when(0, 0, 2), 2);
        Check.due("not in 1 DAY", x.when(0, 0, 1), NONE);
        // hush: c on DAYS 2, 6, 10: half on DAY 6
        Check.due("hush", x.when(0, 1, 60), 6);
        Check.due("hush in 5", x.when(0, 1, 5), NONE);
        Check.due("a repeal binds nobody", x.when(1, 2, 60), NONE);
        Check.due("never", x.when(2, 0, 60), NONE);
        Check.due("all stays", x.now(0), 0);
        Check.due("nothing to undo", x.undo(), NONE);
        x.days(2);
        Check.due("now it does", x.when(0, 0, 1), 2);
        Check.due("in no DAYS", x.when(0, 0, 0), NONE);
        Check.due("in too many", x.when(0, 0, 61), NONE);
        x.days(1);
        Check.due("DAY 3: half, tomorrow", x.when(0, 0, 1), 4);
        for (int bad : new int[] {0, -1, 61, Integer.MAX_VALUE, Integer.MIN_VALUE}) {
            Check.due("when", x.when(0, 0, bad), NONE);
        }
        for (int bad : new int[] {-1, 3, Integer.MAX_VALUE, Integer.MIN_VALUE}) {
            Check.due("when", x.when(bad, 0, 60), NONE);
            Check.due("when", x.when(0, bad, 60), NONE);
        }
        // all of a LAW on DAY 1, an odd one; the repeal is forgotten on DAY 10, the LAW read on each DAY
        ReadBound y = Check.land("place a;place b;deed d;law l 1 d;repeal r 1 l;man m a 1;round m a;post r a;post l a;");
        Check.due("as long as both are read", y.when(0, 0, 60), NONE);
        y.rain(0);
        y.post(0, 0);
        Check.due("the repeal is forgotten", y.when(0, 0, 60), 10);
        Check.due("in 9", y.when(0, 0, 9), NONE);
        ReadBound z = Check.land("place a;deed d;law l 4 d;man m a 1;round m a;");
        for (int i = 0; i < 6; i++) {
            z.days(60);
        }
        z.days(37);
        z.image(0);
        z.post(0, 0);
        Check.due("half on DAY 398", z.when(0, 0, 60), 398);
        z.restore(0);
        z.days(2);
        z.post(0, 0);
        Check.due("half on DAY 400", z.when(0, 0, 60), 400);
        z.restore(0);
        z.days(3);
        z.post(0, 0);
        Check.due("no DAY is left", z.when(0, 0, 60), NONE);
    }

    private static void clerks() {
        ReadBound x = Check.land("place a;man m a 1;man n a 1;man o a 1;man p a 1;man q a 1;man r a 1;"
                + "clerk m n;clerk n o;clerk p o;clerk q r;clerk r q;");
        int[] due = {0, 1, 1 + 2 + 8, 0, 16 + 32, 16 + 32};
        for (int m = 0; m < 6; m++) {
            Check.due("clerks of " + m, x.clerks(m), due[m]);
        }
        for (int bad : new int[] {-1, 6, Integer.MAX_VALUE, Integer.MIN_VALUE}) {
            Check.due("clerks", x.clerks(bad), NONE);
        }
        ReadBound y = Check.land("place a;man m a 1;man n a 1;man o a 1;man p a 1;man q a 1;man r a 1;"
                + "clerk r q;clerk q p;clerk p o;clerk o n;clerk n m;");
        Check.due("a chain", y.clerks(0), 62);
    }
}
