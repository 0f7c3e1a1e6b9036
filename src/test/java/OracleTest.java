import java.nio.charset.StandardCharsets;
import java.util.ArrayList;
import java.util.Arrays;
import java.util.List;
import java.util.NoSuchElementException;
import java.util.Random;

/** Runs of calls drawn by fixed seeds, on the class and on the oracle: all answers must be alike. */
public final class OracleTest {
    private static final String[] VOCABULARY = Oracle.TOLD_WORDS.stream().sorted().toArray(String[]::new);
    private static final String[] PLACES = {"a", "bb", "ccc", "dddd", "eeeee", "ffffff", "ggggggg", "h", "i", "j", "k"};
    private static final String[] DEEDS = {"beg", "sing", "dig", "row", "hum", "nap"};
    private static final String[] LAWS = {"tax", "hush", "calm", "ebb", "law1x", "zeal", "quiet"};
    private static final String[] MEN = {"joe", "ida", "duke", "ann", "bo", "zed", "kim"};
    private static final int MACHINE = -7777;

    private final Random random;
    private final ReadBound x = new ReadBound();
    private final Oracle y = new Oracle();
    private final List<String> calls = new ArrayList<>();
    private boolean wrong = false;

    private OracleTest(long seed) {
        random = new Random(seed);
    }

    public static void main(String[] args) {
        int runs = args.length > 0 ? Integer.parseInt(args[0]) : 400;
        int from = args.length > 1 ? Integer.parseInt(args[1]) : 1;
        int bad = 0;
        for (int seed = from; seed < from + runs && bad < 3; seed++) {
            OracleTest test = new OracleTest(seed);
            test.run();
            if (test.wrong) {
                bad++;
                System.out.println("seed " + seed + ":");
                int first = Math.max(0, test.calls.size() - 60);
                test.calls.subList(first, test.calls.size()).forEach(call -> System.out.println("  " + call));
            }
        }
        if (bad > 0) {
            System.exit(1);
        }
    }

    private void run() {
        for (int i = 0; i < 9 && y.count(4) == 0; i++) {
            text(land(), 0);
        }
        int first = calls.size();
        // some runs near the last DAY, which none would come to else
        for (int i = random.nextInt(4) == 0 ? 0 : 6; i < 6; i++) {
            due("days 60", x.days(60), y.days(60));
        }
        for (int i = 0; i < 400 && !wrong && calls.size() - first < 450; i++) {
            int kind = random.nextInt(40);
            if (kind == 0) {
                text(random.nextInt(4) == 0 ? land() : mutated(land()), 0);
            } else if (kind <= 3) {
                text(random.nextBoolean() ? diary() : mutated(diary()), 1);
            } else if (kind <= 6) {
                text(random.nextBoolean() ? sentence() : mutated(sentence()), 2);
            } else {
                call(random.nextInt(CALLS.length));
            }
        }
        for (int what = 0; what < CALLS.length && !wrong; what++) {
            call(what);
        }
    }

    private static final String[] CALLS = {"law", "man", "place", "now", "go", "act", "wear", "fever", "post", "rain",
        "days", "undo", "words", "state", "binds", "barred", "lifted", "bound", "forgets", "way", "step", "meets",
        "boards", "posts", "posted", "reads", "surely", "when", "clerks", "drawn", "odds", "told", "said", "image",
        "restore", "count", "end", "fault", "diary", "go", "go", "post", "days", "days", "act"};

    /** Mostly one that there is, at times none. */
    private int some(int n) {
        int wild = random.nextInt(60);
        if (wild == 0) {
            return random.nextInt();
        }
        if (wild <= 2) {
            return n + random.nextInt(2);
        }
        if (wild == 3) {
            return -1 - random.nextInt(2);
        }
        return random.nextInt(Math.max(1, n));
    }

    private void call(int what) {
        int m = some(y.count(4));
        int p = some(y.count(0));
        int q = some(y.count(0));
        int d = some(y.count(2));
        int l = some(y.count(3));
        int r = random.nextInt();
        int n;
        switch (CALLS[what]) {
            case "law": n = some(4); due("law " + l + " " + n, x.law(l, n), y.law(l, n)); break;
            case "man": n = some(6); due("man " + m + " " + n, manX(m, n), manY(m, n)); break;
            case "place": n = some(3); due("place " + p + " " + n, x.place(p, n), y.place(p, n)); break;
            case "now": n = some(6); due("now " + n, x.now(n), y.now(n)); break;
            case "go": due("go " + m + " " + p, x.go(m, p), y.go(m, p)); break;
            case "act": due("act " + m + " " + d, x.act(m, d), y.act(m, d)); break;
            case "wear": n = some(2); due("wear " + m + " " + n, x.wear(m, n), y.wear(m, n)); break;
            case "fever": due("fever " + m, x.fever(m), y.fever(m)); break;
            case "post": due("post " + l + " " + p, x.post(l, p), y.post(l, p)); break;
            case "rain": due("rain " + p, x.rain(p), y.rain(p)); break;
            case "days": n = some(random.nextInt(20) == 0 ? 61 : 5); due("days " + n, x.days(n), y.days(n)); break;
            case "undo": due("undo", x.undo(), y.undo()); break;
            case "words": due("words " + m + " " + l, x.words(m, l), y.words(m, l)); break;
            case "state": due("state " + m + " " + l, x.state(m, l), y.state(m, l)); break;
            case "binds": due("binds " + m, x.binds(m), y.binds(m)); break;
            case "barred": due("barred " + m, x.barred(m), y.barred(m)); break;
            case "lifted": due("lifted " + m, x.lifted(m), y.lifted(m)); break;
            case "bound": due("bound " + l, x.bound(l), y.bound(l)); break;
            case "forgets": due("forgets " + m + " " + l, x.forgets(m, l), y.forgets(m, l)); break;
            case "way": n = some(1 << Math.max(0, y.count(3))) & (random.nextBoolean() ? -1 : 1 << random.nextInt(7));
                due("way " + m + " " + p + " " + n, x.way(m, p, n), y.way(m, p, n)); break;
            case "step": n = some(5); due("step " + n, x.step(n), y.step(n)); break;
            case "meets": due("meets " + m + " " + p, x.meets(m, p), y.meets(m, p)); break;
            case "boards": due("boards " + p + " " + q + " " + l, x.boards(p, q, l), y.boards(p, q, l)); break;
            case "posts": n = some(4); due("posts " + l + " " + n, x.posts(l, n), y.posts(l, n)); break;
            case "posted": due("posted", x.posted(), y.posted()); break;
            case "reads": n = some(1 << y.count(2)); due("reads " + n, x.reads(n), y.reads(n)); break;
            case "surely": due("surely", x.surely(), y.surely()); break;
            case "when": n = some(61); due("when " + m + " " + l + " " + n, x.when(m, l, n), y.when(m, l, n)); break;
            case "clerks": due("clerks " + m, x.clerks(m), y.clerks(m)); break;
            case "drawn": n = some(random.nextInt(10) == 0 ? 61 : 9); due("drawn " + n + " " + r, x.drawn(n, r), y.drawn(n, r)); break;
            case "odds": n = some(31); due("odds " + m + " " + n + " " + r, x.odds(m, n, r), y.odds(m, n, r)); break;
            case "told": n = some(4); due("told " + n, x.told(n), y.told(n)); break;
            case "said": n = some(4) - 1; due("said " + n, x.said(n), y.said(n)); break;
            case "image": n = some(2); due("image " + n, x.image(n) ? 1 : 0, y.image(n) ? 1 : 0); break;
            case "restore": n = some(2); due("restore " + n, x.restore(n) ? 1 : 0, y.restore(n) ? 1 : 0); break;
            case "count": n = some(6); due("count " + n, x.count(n), y.count(n)); break;
            case "end": n = some(3); due("end " + n, x.end(n) ? 1 : 0, y.end(n) ? 1 : 0); break;
            case "fault": due("fault", x.fault(), y.fault()); break;
            default: n = 2 + random.nextInt(3); due("diary " + n, x.diary(n), y.diary(n)); break;
        }
    }

    private int manX(int m, int what) {
        try {
            return x.man(m, what);
        } catch (NoSuchElementException e) {
            return MACHINE;
        }
    }

    private int manY(int m, int what) {
        try {
            return y.man(m, what);
        } catch (NoSuchElementException e) {
            return MACHINE;
        }
    }

    private void due(String call, int got, int want) {
        calls.add(call + " -> " + got + (got == want ? "" : ", due is " + want));
        wrong |= got != want;
    }

    private void text(String text, int as) {
        byte[] bytes = text.substring(0, Math.min(940, text.length())).getBytes(StandardCharsets.ISO_8859_1);
        x.end(0);
        y.end(0);
        for (int i = 0; i < bytes.length; i += 20) {
            byte[] part = Arrays.copyOf(Arrays.copyOfRange(bytes, i, Math.min(bytes.length, i + 20)), 20);
            int[] five = new int[5];
            for (int k = 0; k < 20; k++) {
                five[k / 4] = five[k / 4] << 8 | part[k] & 255;
            }
            due("feed", x.feed(five[0], five[1], five[2], five[3], five[4]), y.feed(five));
        }
        due("end " + bytes.length, x.end(bytes.length) ? 1 : 0, y.end(bytes.length) ? 1 : 0);
        calls.add("'" + text + "'");
        if (as == 0) {
            due("land", x.land(), y.land());
        } else if (as == 1) {
            int lives = random.nextInt(2);
            due("diary " + lives, x.diary(lives), y.diary(lives));
        } else {
            due("sentence", x.sentence(), y.sentence());
        }
        due("fault", x.fault(), y.fault());
    }

    // ---- texts

    private String pick(String[] all, int n) {
        return all[random.nextInt(Math.max(1, Math.min(n, all.length)))];
    }

    private int upTo(int most) {
        return random.nextInt(40) == 0 ? most + 1 : random.nextInt(most + 1);
    }

    private String land() {
        int places = 1 + upTo(9);
        int deeds = 1 + upTo(4);
        int laws = upTo(6);
        int men = upTo(6);
        List<String> lines = new ArrayList<>();
        for (int i = 0; i < places; i++) {
            lines.add("place " + PLACES[i]);
        }
        for (int i = 0; i < deeds; i++) {
            lines.add("deed " + DEEDS[i]);
        }
        for (int i = 0; i < laws; i++) {
            int length = 1 + random.nextInt(random.nextInt(3) == 0 ? 30 : 9);
            if (i > 0 && random.nextInt(3) == 0) {
                lines.add("repeal " + law(i) + " " + length + " " + law(random.nextInt(i)));
            } else {
                StringBuilder line = new StringBuilder("law " + law(i) + " " + length);
                int more = 1 + random.nextInt(deeds);
                for (int k = 0; k < more; k++) {
                    line.append(' ').append(DEEDS[(k + i) % deeds]);
                }
                lines.add(line.toString());
            }
        }
        for (int i = 0; i < men; i++) {
            lines.add("man " + MEN[i] + " " + pick(PLACES, places) + " " + random.nextInt(10));
        }
        int extra = random.nextInt(50);
        for (int i = 0; i < extra; i++) {
            String line = extraLine(places, laws, men);
            if (random.nextInt(200) == 0 || !lines.contains(line) && fits(lines, line)) {
                lines.add(line);
            }
        }
        return join(lines);
    }

    private static String law(int i) {
        return LAWS[i].replaceAll("[^a-z]", "");
    }

    private String extraLine(int places, int laws, int men) {
        switch (random.nextInt(7)) {
            case 0:
                StringBuilder round = new StringBuilder("round " + pick(MEN, men));
                int stops = 1 + upTo(7);
                for (int i = 0; i < stops; i++) {
                    round.append(' ').append(pick(PLACES, places));
                }
                return round.toString();
            case 1:
                return "clerk " + pick(MEN, men) + " " + pick(MEN, men);
            case 2:
            case 3:
                return "post " + law(random.nextInt(Math.max(1, laws))) + " " + pick(PLACES, places);
            default:
                return "road " + pick(PLACES, places) + " " + pick(PLACES, places);
        }
    }

    /** Whether a line likely makes no fault, so that most lands are lands. */
    private static boolean fits(List<String> lines, String line) {
        String[] w = line.split(" ");
        String all = ";" + String.join(";", lines) + ";";
        switch (w[0]) {
            case "road":
                return !w[1].equals(w[2]) && !lines.contains("road " + w[2] + " " + w[1])
                        && lines.stream().filter(other -> other.startsWith("road")).count() < 16;
            case "clerk":
                return !w[1].equals(w[2]) && !all.contains(";clerk " + w[1] + " ") && all.contains(";man " + w[1] + " ")
                        && all.contains(";man " + w[2] + " ");
            case "round":
                return !all.contains(";round " + w[1] + " ") && all.contains(";man " + w[1] + " ");
            default:
                return all.contains("law " + w[1] + " ") || all.contains("repeal " + w[1] + " ");
        }
    }

    private String join(List<String> lines) {
        StringBuilder text = new StringBuilder();
        for (String line : lines) {
            text.append(line).append(random.nextInt(20) == 0 ? " ; \n" : ";");
        }
        return text.toString();
    }

    private String diary() {
        List<String> lines = new ArrayList<>();
        int n = random.nextInt(8) == 0 ? 36 + random.nextInt(8) : random.nextInt(9);
        for (int i = 0; i < n; i++) {
            lines.add(n > 20 && random.nextInt(4) > 0 ? "day 1" : diaryLine());
        }
        return join(lines);
    }

    private String diaryLine() {
        String man = pick(MEN, y.count(4));
        switch (random.nextInt(12)) {
            case 0: return man + " does " + pick(DEEDS, y.count(2));
            case 1: return man + " wears";
            case 2: return man + " bares";
            case 3: return man + " fevers";
            case 4: return "posts " + law(random.nextInt(Math.max(1, y.count(3)))) + " " + pick(PLACES, y.count(0));
            case 5: return "rains " + pick(PLACES, y.count(0));
            case 6: return "day " + (1 + random.nextInt(random.nextInt(5) == 0 ? 60 : 3));
            case 7: return "day 1";
            case 8: return man + " does " + pick(DEEDS, y.count(2));
            default: return man + " goes " + pick(PLACES, y.count(0));
        }
    }

    private String sentence() {
        return cond(random.nextInt(6) == 0 ? 9 : random.nextInt(4));
    }

    private String cond(int deep) {
        StringBuilder text = new StringBuilder(one(deep));
        int more = random.nextInt(3);
        for (int i = 0; i < more; i++) {
            text.append(random.nextBoolean() ? " and " : " or ").append(one(deep - 1));
        }
        return text.toString();
    }

    private String one(int deep) {
        if (deep > 0) {
            return random.nextInt(5) < 2 ? "not " + one(deep - 1) : random.nextInt(9) == 0 ? plain() : "(" + cond(deep - 1) + ")";
        }
        return plain();
    }

    private String plain() {
        switch (random.nextInt(9)) {
            case 0: return "blind";
            case 1: return "free";
            case 2: return "bound " + law(random.nextInt(Math.max(1, y.count(3))));
            case 3: return "may " + pick(DEEDS, y.count(2));
            case 4: return "in " + pick(PLACES, y.count(0));
            case 5: return "sight" + pick(new String[] {"<", "=", " > "}, 3) + random.nextInt(10);
            case 6: return "words " + pick(new String[] {"<", "=", ">"}, 3) + " " + random.nextInt(20);
            case 7: return "did" + pick(new String[] {"<", "=", ">"}, 3) + random.nextInt(4);
            default: return "number " + pick(new String[] {"<", "=", ">"}, 3) + random.nextInt(6);
        }
    }

    private String mutated(String text) {
        List<String> parts = new ArrayList<>(Arrays.asList(text.split("(?<=[^a-z0-9])|(?=[^a-z0-9])")));
        int changes = 1 + random.nextInt(2);
        for (int i = 0; i < changes; i++) {
            int at = random.nextInt(parts.size() + 1);
            if (at < parts.size() && random.nextInt(3) == 0 && parts.get(at).equals(";") && at > 0) {
                at--;
            }
            if (at < parts.size() && parts.get(at).matches("[0-9]+")) {
                parts.set(at, new String[] {"0", "00", "10", "31", "61", "99", "100", "a", ""}[random.nextInt(9)]);
                continue;
            }
            switch (random.nextInt(6)) {
                case 0:
                    parts.add(at, strange());
                    break;
                case 1:
                    if (at < parts.size()) {
                        parts.remove(at);
                    }
                    break;
                case 2:
                case 3:
                    if (at < parts.size()) {
                        parts.set(at, strange());
                    }
                    break;
                case 4:
                    parts.add(at, Check.times(" ", random.nextInt(random.nextBoolean() ? 400 : 900)));
                    break;
                default:
                    parts = new ArrayList<>(parts.subList(0, at));
                    break;
            }
        }
        return String.join("", parts);
    }

    private String strange() {
        switch (random.nextInt(10)) {
            case 0: return pick(VOCABULARY, 99);
            case 1: return " " + pick(VOCABULARY, 99) + " ";
            case 2: return String.valueOf(random.nextInt(random.nextInt(4) == 0 ? 120 : 65));
            case 3: return pick(PLACES, 11);
            case 4: return pick(DEEDS, 6);
            case 5: return law(random.nextInt(7));
            case 6: return pick(MEN, 7);
            case 7: return pick(new String[] {";", "<", "=", ">", "(", ")", ".", "A", "\t", "\u00e9", "\0", "nobody", "toolongx", "a1", "1a"}, 99);
            case 8: return " 0" + random.nextInt(10) + " ";
            default: return String.valueOf((char) random.nextInt(256));
        }
    }
}
