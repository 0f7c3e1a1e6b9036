/** Promises 35 and 36: DAYS DRAWN by a seed, done once more by single calls. */
public final class DrawTest {
    private static final int NONE = ReadBound.NONE;
    private static int x;

    public static void main(String[] args) {
        drawn();
        odds();
        edges();
        Check.end();
    }

    private static int draw(int n) {
        x = x * 1103515245 + 12345;
        return (x >>> 8) % n;
    }

    private static void byHand(ReadBound land, int days, int seed) {
        x = seed;
        for (int i = 0; i < days; i++) {
            if (draw(4) == 0) {
                land.rain(draw(land.count(0)));
            }
            for (int m = 0; m < land.count(4); m++) {
                if (draw(20) == 0) {
                    land.fever(m);
                } else if (draw(3) == 0) {
                    land.go(m, draw(land.count(0)));
                }
            }
            land.days(1);
        }
    }

    private static void same(String when, ReadBound a, ReadBound b) {
        for (int what = 0; what < 6; what++) {
            Check.due(when + ": now " + what, a.now(what), b.now(what));
        }
        for (int m = 0; m < b.count(4); m++) {
            for (int what = 0; what < 6; what++) {
                Check.due(when + ": man " + what, a.man(m, what), b.man(m, what));
            }
            for (int l = 0; l < b.count(3); l++) {
                Check.due(when + ": words", a.words(m, l), b.words(m, l));
                Check.due(when + ": forgets", a.forgets(m, l), b.forgets(m, l));
            }
        }
        for (int p = 0; p < b.count(0); p++) {
            Check.due(when + ": place", a.place(p, 1), b.place(p, 1));
        }
    }

    private static void drawn() {
        for (int seed = -20; seed < 20; seed++) {
            ReadBound a = Check.land(Check.LAND);
            ReadBound b = Check.land(Check.LAND);
            int days = 1 + (seed + 20) % 13;
            Check.due("drawn", a.drawn(days, seed * 1000003), days);
            byHand(b, days, seed * 1000003);
            same("seed " + seed, a, b);
        }
    }

    private static void odds() {
        for (int seed = 5; seed < 2000000000 && seed > 0; seed += 333333333) {
            ReadBound a = Check.land(Check.LAND);
            a.days(2);
            a.image(0);
            for (int m = 0; m < 3; m++) {
                int free = 0;
                for (int i = 0; i < 30; i++) {
                    a.drawn(20, seed + i);
                    free += a.binds(m) == 0 ? 1 : 0;
                    a.restore(0);
                }
                Check.due("odds", a.odds(m, 30, seed), free);
            }
            Check.due("all stays", a.now(0), 2);
            Check.due("nothing to undo", a.undo(), NONE);
        }
        lastDays();
        ReadBound y = Check.land("place a;deed d;law l 1 d;man m a 1;man n a 0;round m a;post l a;");
        int wrapped = y.odds(0, 30, Integer.MAX_VALUE - 3);
        y.image(0);
        int free = 0;
        for (int i = 0; i < 30; i++) {
            y.drawn(20, Integer.MAX_VALUE - 3 + i);
            free += y.binds(0) == 0 ? 1 : 0;
            y.restore(0);
        }
        Check.due("seeds wrap", wrapped, free);
        Check.due("never bound", y.odds(1, 30, 1), 30);
        Check.due("of one seed", y.odds(1, 1, 1), 1);
        for (int bad : new int[] {0, -1, 31, Integer.MAX_VALUE, Integer.MIN_VALUE}) {
            Check.due("odds", y.odds(0, bad, 1), NONE);
        }
        for (int bad : new int[] {-1, 2, Integer.MAX_VALUE, Integer.MIN_VALUE}) {
            Check.due("odds", y.odds(bad, 1, 1), NONE);
        }
    }

    /** Ten DAYS are left: no draws are made behind them. */
    private static void lastDays() {
        ReadBound a = Check.land(Check.LAND);
        for (int i = 0; i < 6; i++) {
            a.days(60);
        }
        a.days(30);
        a.image(0);
        for (int m = 0; m < 3; m++) {
            int free = 0;
            for (int i = 0; i < 30; i++) {
                byHand(a, 10, 4711 + i);
                free += a.binds(m) == 0 ? 1 : 0;
                a.restore(0);
            }
            Check.due("odds of the last DAYS", a.odds(m, 30, 4711), free);
        }
    }

    private static void edges() {
        ReadBound a = new ReadBound();
        Check.due("no PLACES", a.drawn(1, 1), NONE);
        Check.landOf(a, "place a;");
        for (int bad : new int[] {0, -1, 61, Integer.MAX_VALUE, Integer.MIN_VALUE}) {
            Check.due("drawn", a.drawn(bad, 1), NONE);
        }
        for (int i = 0; i < 6; i++) {
            Check.due("drawn", a.drawn(60, i), 60);
        }
        Check.due("the rest", a.drawn(60, 1), 40);
        Check.due("none", a.drawn(60, 1), 0);
        Check.due("DAY", a.now(0), 400);
        Check.due("undone", a.undo(), 6);
        Check.due("DAY", a.now(0), 360);
    }
}
