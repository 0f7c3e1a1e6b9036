/** Promises 39 and 40: SENTENCES. */
public final class SentenceTest {
    private static final int NONE = ReadBound.NONE;

    public static void main(String[] args) {
        faults();
        limits();
        parts();
        joins();
        said();
        Check.end();
    }

    private static void fault(String text, int at, int kind) {
        ReadBound x = Check.land(Check.LAND);
        Check.sentenceOf(x, "in d");
        Check.due("sentence '" + text + "'", Check.sentenceOf(x, text), -1 - at);
        Check.due("fault of '" + text + "'", x.fault(), kind);
        Check.due("tape behind it", x.count(5), 0);
        Check.due("the other stays", x.said(0), 1);
    }

    private static void fine(String text, int ones) {
        ReadBound x = Check.land(Check.LAND);
        Check.due("sentence '" + text + "'", Check.sentenceOf(x, text), ones);
        Check.due("fault of '" + text + "'", x.fault(), 0);
        Check.due("tape behind it", x.count(5), 0);
    }

    private static void faults() {
        fault("", 0, 1);
        fault("  ", 2, 1);
        fault("a", 0, 1);
        fault("7", 0, 1);
        fault("and", 0, 1);
        fault("or free", 0, 1);
        fault("day", 0, 1);
        fault(")", 0, 1);
        fault("free free", 5, 1);
        fault("free;", 4, 1);
        fault("free and", 8, 1);
        fault("free or or", 8, 1);
        fault("free)", 4, 1);
        fault("(free", 5, 1);
        fault("(free;", 5, 1);
        fault("()", 1, 1);
        fault("not", 3, 1);
        fault("not and", 4, 1);
        fault("bound", 5, 1);
        fault("bound in", 6, 1);
        fault("bound 1", 6, 1);
        fault("bound joe", 6, 3);
        fault("bound x", 6, 3);
        fault("may tax", 4, 3);
        fault("in joe", 3, 3);
        fault("in beg", 3, 3);
        fault("sight 1", 6, 1);
        fault("sight (", 6, 1);
        fault("sight <", 7, 1);
        fault("sight < =", 8, 1);
        fault("sight < a", 8, 1);
        fault("sight < 100", 8, 1);
        fault("number = 1a", 9, 1);
        fault("words > 1 2", 10, 1);
        fault("free.", 4, 1);
        fault("free AND free", 5, 1);
    }

    private static void limits() {
        fine(Check.times("free or ", 19) + "free", 20);
        fault(Check.times("free or ", 20) + "free", 160, 4);
        fault(Check.times("free or ", 20) + "x", 160, 1);
        fine(Check.times("(free)or", 9) + "(free)", 20);
        fault(Check.times("(free)or", 10) + "(free)", 80, 4);
        fault(Check.times("free or ", 19) + "not free", 156, 4);
        fine(Check.times("not ", 7) + "free", 8);
        fault(Check.times("not ", 8) + "free", 32, 4);
        fault(Check.times("not ", 8) + "x", 32, 1);
        fine(Check.times("(", 7) + "free and blind" + Check.times(")", 7), 9);
        fault(Check.times("(", 8) + "free" + Check.times(")", 8), 8, 4);
        fault(Check.times("(", 9) + "free" + Check.times(")", 9), 8, 4);
        fine("((not (not (not free))))and((not (not (not free))))", 16);
        fine("free" + Check.times(" ", 196), 1);
        fault("free" + Check.times(" ", 197), 200, 1);
        fault(Check.times(" ", 199) + "free", 200, 1);
        fault(Check.times(" ", 199) + "x", 199, 1);
        fault("not" + Check.times(" ", 900), 200, 1);
        fine("did = 99 or number=0", 2);
        fine("\nfree\nand(blind)", 3);
    }

    private static int men(ReadBound x, String text) {
        Check.due("sentence '" + text + "'", Check.sentenceOf(x, text) > 0, true);
        int men = 0;
        for (int k = 0; k < x.said(NONE); k++) {
            men |= 1 << x.said(k);
        }
        return men;
    }

    private static void parts() {
        ReadBound x = Check.land(Check.LAND);
        x.days(2);
        x.act(0, 1);
        x.act(1, 0);
        x.act(1, 1);
        x.wear(1, 1);
        Check.due("blind", men(x, "blind"), 6);
        x.wear(1, 0);
        Check.due("blind", men(x, "blind"), 4);
        Check.due("free", men(x, "free"), 6);
        Check.due("bound tax", men(x, "bound tax"), 1);
        Check.due("bound hush", men(x, "bound hush"), 0);
        Check.due("bound calm, a repeal", men(x, "bound calm"), 0);
        Check.due("may beg", men(x, "may beg"), 6);
        Check.due("may sing", men(x, "may sing"), 7);
        Check.due("in c", men(x, "in c"), 5);
        Check.due("in a", men(x, "in a"), 0);
        Check.due("sight = 2", men(x, "sight = 2"), 1);
        Check.due("sight < 9", men(x, "sight < 9"), 5);
        Check.due("sight > 0", men(x, "sight > 0"), 3);
        Check.due("words = 4: 2 of tax, 2 of hush", men(x, "words = 4"), 1);
        Check.due("words > 3", men(x, "words > 3"), 1);
        Check.due("words < 4: of a repeal", men(x, "words < 4"), 6);
        Check.due("did = 1", men(x, "did = 1"), 1);
        Check.due("did > 1", men(x, "did > 1"), 2);
        Check.due("did < 1", men(x, "did < 1"), 4);
        Check.due("number = 2", men(x, "number = 2"), 4);
        Check.due("number < 2", men(x, "number < 02"), 3);
        Check.due("number > 0", men(x, "number > 0"), 6);
        x.days(1);
        Check.due("an odd DAY", men(x, "free"), 7);
    }

    private static void joins() {
        ReadBound x = Check.land("place a;man m a 1;man n a 1;man o a 1;man p a 1;man q a 1;man r a 1;");
        Check.due("and ahead of or", men(x, "number=1 or number=2 and number=3"), 2);
        Check.due("and ahead of or", men(x, "number=1 and number=3 or number=2"), 4);
        Check.due("brackets", men(x, "(number=1 or number=2) and number>1"), 4);
        Check.due("brackets behind", men(x, "number>1 and (number=1 or number=2 or number=4)"), 20);
        Check.due("not of one alone", men(x, "not number=1 and number<3"), 5);
        Check.due("not of a bracket", men(x, "not (number=1 and number<3)"), 61);
        Check.due("not not", men(x, "not not number=5"), 32);
        Check.due("not not not", men(x, "not not not number=5 or number=5"), 63);
        Check.due("many", men(x, "number=0 or number=1 and number=1 or number=2 and not number=2 or number=5"), 35);
    }

    private static void said() {
        ReadBound x = Check.land(Check.LAND);
        Check.due("no SENTENCE", x.said(NONE), NONE);
        Check.due("no SENTENCE", x.said(0), NONE);
        Check.sentenceOf(x, "number > 0");
        Check.due("how many", x.said(NONE), 2);
        Check.due("the first", x.said(0), 1);
        Check.due("the second", x.said(1), 2);
        for (int bad : new int[] {2, -2, 6, Integer.MAX_VALUE, Integer.MIN_VALUE}) {
            Check.due("none such", x.said(bad), NONE);
        }
        Check.sentenceOf(x, "number > 9");
        Check.due("none", x.said(NONE), 0);
        Check.due("none such", x.said(0), NONE);
        Check.sentenceOf(x, "in b");
        Check.due("none", x.said(NONE), 0);
        x.go(0, 1);
        Check.due("as it is now", x.said(NONE), 1);
        Check.due("as it is now", x.said(0), 0);
    }
}
