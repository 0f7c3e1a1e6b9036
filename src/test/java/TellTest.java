/** Promises 6 to 9: what is told of LAWS, MEN, PLACES and of now. */
public final class TellTest {
    public static void main(String[] args) {
        laws();
        men();
        places();
        now();
        Check.end();
    }

    private static void laws() {
        ReadBound x = Check.land(Check.LAND);
        int[][] due = {{4, 1, -1, 2}, {6, 3, -1, 4}, {3, 0, 1, 8}};
        for (int l = 0; l < 3; l++) {
            for (int what = 0; what < 4; what++) {
                Check.due("law(" + l + ", " + what + ")", x.law(l, what), due[l][what]);
            }
        }
        for (int bad : new int[] {-1, 3, 6, Integer.MAX_VALUE, Integer.MIN_VALUE}) {
            Check.due("law(" + bad + ", 0)", x.law(bad, 0), ReadBound.NONE);
        }
        for (int bad : new int[] {-1, 4, Integer.MAX_VALUE, Integer.MIN_VALUE}) {
            Check.due("law(0, " + bad + ")", x.law(0, bad), ReadBound.NONE);
        }
        x.post(0, 0);
        Check.due("posted besides", x.law(0, 3), 3);
        x.rain(1);
        Check.due("washed off", x.law(0, 3), 1);
    }

    private static void men() {
        ReadBound x = Check.land(Check.LAND);
        int[][] due = {{0, 2, 0, -1, 0, 0}, {3, 9, 0, 2, 0, 0}, {2, 0, 0, -1, 0, 0}};
        for (int m = 0; m < 3; m++) {
            for (int what = 0; what < 6; what++) {
                Check.due("man(" + m + ", " + what + ")", x.man(m, what), due[m][what]);
            }
        }
        ReadBound y = Check.land("place a;place b;man m b 1;man n a 1;");
        Check.due("the first begins in b", y.man(0, 0), 1);
        Check.due("the second in a", y.man(1, 0), 0);
        for (int bad : new int[] {-1, 3, 6, Integer.MAX_VALUE, Integer.MIN_VALUE}) {
            Check.noMan(x, bad, 0);
        }
        for (int bad : new int[] {-1, 6, Integer.MAX_VALUE, Integer.MIN_VALUE}) {
            Check.noMan(x, 0, bad);
        }
        x.go(0, 3);
        x.wear(0, 1);
        x.act(0, 0);
        x.act(0, 1);
        int[] then = {3, 2, 1, -1, 1, 2};
        for (int what = 0; what < 6; what++) {
            Check.due("man(0, " + what + ")", x.man(0, what), then[what]);
        }
        Check.noMan(x, 3, 3);
        Check.due("a call that throws changes nothing", x.man(0, 5), 2);
    }

    private static void places() {
        ReadBound x = Check.land(Check.LAND);
        int[][] due = {{10, 0, 1}, {5, 1, 0}, {10, 2, 4}, {5, 4, 2}};
        for (int p = 0; p < 4; p++) {
            for (int what = 0; what < 3; what++) {
                Check.due("place(" + p + ", " + what + ")", x.place(p, what), due[p][what]);
            }
        }
        for (int bad : new int[] {-1, 4, 10, Integer.MAX_VALUE, Integer.MIN_VALUE}) {
            Check.due("place(" + bad + ", 0)", x.place(bad, 0), ReadBound.NONE);
        }
        for (int bad : new int[] {-1, 3, Integer.MAX_VALUE, Integer.MIN_VALUE}) {
            Check.due("place(0, " + bad + ")", x.place(0, bad), ReadBound.NONE);
        }
        x.go(0, 3);
        Check.due("two MEN there", x.place(3, 2), 3);
        x.post(2, 1);
        Check.due("two LAWS there", x.place(1, 1), 5);
    }

    private static void now() {
        ReadBound x = Check.land(Check.LAND);
        int[] first = {0, 3, 0, 0, 0, 7};
        for (int what = 0; what < 6; what++) {
            Check.due("now(" + what + ")", x.now(what), first[what]);
        }
        x.days(1);
        x.days(1);
        x.act(0, 1);
        x.act(1, 0);
        x.act(1, 1);
        x.wear(2, 1);
        x.wear(1, 1);
        x.rain(1);
        int[] then = {2, 2, 3, 6, 1, 6};
        for (int what = 0; what < 6; what++) {
            Check.due("then now(" + what + ")", x.now(what), then[what]);
        }
        for (int bad : new int[] {-1, 6, Integer.MAX_VALUE, Integer.MIN_VALUE}) {
            Check.due("now(" + bad + ")", x.now(bad), ReadBound.NONE);
        }
    }
}
