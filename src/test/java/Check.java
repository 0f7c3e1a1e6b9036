import java.nio.charset.StandardCharsets;
import java.nio.file.Files;
import java.nio.file.Path;
import java.nio.file.Paths;

/** What every test needs: answers compared, texts put on the tape. */
final class Check {
    static final String LAND = "place a;place b;place c;place d;road a b;road b c;road c d;road a d;"
            + "deed beg;deed sing;law tax 4 beg;law hush 6 sing beg;repeal calm 3 hush;"
            + "man joe a 2;man ida d 9;man duke c 0;clerk ida duke;round joe b c d a;"
            + "post tax b;post hush c;post calm d;";

    private static final Path DOCUMENT = Paths.get("../shared/DOC.md");

    private static int wrong = 0;
    private static String edge = "";
    private static String document;

    private Check() {
    }

    static void due(String what, long got, long want) {
        if (got != want) {
            wrong++;
            System.out.println(edge + what + " answered " + got + ", due is " + want);
        }
    }

    /** What follows tests these words of the document's part. A word that stands there no more is told, as the test may be stale. */
    static void edge(String part, String words) {
        edge = part + " [" + words + "] ";
        if (!document().isEmpty() && !textOf(part).contains(words)) {
            System.out.println(edge + "does not stand so in the document");
        }
    }

    static void edge(int promise, String words) {
        edge("Promise " + promise, words);
    }

    private static String textOf(String part) {
        for (String text : document().split("## ")) {
            if (text.startsWith(part + ":") || text.startsWith(part + " ")) {
                return text;
            }
        }
        return "";
    }

    private static String document() {
        if (document == null) {
            document = "";
            try {
                if (Files.exists(DOCUMENT)) {
                    String text = new String(Files.readAllBytes(DOCUMENT), StandardCharsets.UTF_8);
                    document = text.replace("&lt;", "<").replace("&gt;", ">").replaceAll("\\s+", " ");
                }
            } catch (java.io.IOException e) {
                System.out.println("the document can't be read: quotes are not looked up");
            }
        }
        return document;
    }

    static void due(String what, boolean got, boolean want) {
        due(what, got ? 1 : 0, want ? 1 : 0);
    }

    /** Whether man() throws NoSuchElementException, and nothing else. */
    static void noMan(ReadBound x, int m, int what) {
        boolean thrown = false;
        try {
            x.man(m, what);
        } catch (java.util.NoSuchElementException e) {
            thrown = true;
        }
        due("man(" + m + ", " + what + ") throws", thrown, true);
    }

    /** Puts a text on the tape, which is empty ahead of it. */
    static void tape(ReadBound x, String text) {
        byte[] bytes = text.getBytes(StandardCharsets.ISO_8859_1);
        for (int i = 0; i < bytes.length; i += 20) {
            int[] five = new int[5];
            for (int k = 0; k < 20; k++) {
                int b = i + k < bytes.length ? bytes[i + k] & 255 : 0;
                five[k / 4] |= b << (24 - 8 * (k % 4));
            }
            x.feed(five[0], five[1], five[2], five[3], five[4]);
        }
        x.end(bytes.length);
    }

    static ReadBound land(String text) {
        ReadBound x = new ReadBound();
        tape(x, text);
        due("land() of " + text + " has a fault", x.land() < 0, false);
        return x;
    }

    static int landOf(ReadBound x, String text) {
        tape(x, text);
        return x.land();
    }

    static int diaryOf(ReadBound x, String text, int lives) {
        tape(x, text);
        return x.diary(lives);
    }

    static int sentenceOf(ReadBound x, String text) {
        tape(x, text);
        return x.sentence();
    }

    static String times(String part, int n) {
        StringBuilder all = new StringBuilder();
        for (int i = 0; i < n; i++) {
            all.append(part);
        }
        return all.toString();
    }

    static void end() {
        if (wrong != 0) {
            System.out.println(wrong + " answers are not as due");
            System.exit(1);
        }
    }
}
