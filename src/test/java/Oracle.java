import java.util.ArrayDeque;
import java.util.ArrayList;
import java.util.Arrays;
import java.util.Deque;
import java.util.HashMap;
import java.util.HashSet;
import java.util.List;
import java.util.Map;
import java.util.NoSuchElementException;
import java.util.Set;
import java.util.function.IntPredicate;
import java.util.regex.Matcher;
import java.util.regex.Pattern;

/** The document once more, written for plainness alone and in other ways than the class: what it answers is due. */
final class Oracle {
    static final Set<String> TOLD_WORDS = new HashSet<>(Arrays.asList("place", "road", "deed", "law", "repeal", "man",
            "round", "clerk", "post", "goes", "does", "wears", "bares", "fevers", "posts", "rains", "day", "or", "and",
            "not", "blind", "free", "bound", "may", "in", "sight", "words", "did", "number"));

    static final class Fault extends RuntimeException {
        private static final long serialVersionUID = 1L;
        final int kind;
        final int at;

        Fault(int kind, int at) {
            this.kind = kind;
            this.at = at;
        }
    }

    static final class Token {
        final String text;
        final int at;
        final char sort; // w word, n number, s sign, x no token, e end

        Token(String text, int at, char sort) {
            this.text = text;
            this.at = at;
            this.sort = sort;
        }

        boolean is(String other) {
            return (sort == 'w' || sort == 's') && text.equals(other);
        }

        boolean isName() {
            return sort == 'w' && !TOLD_WORDS.contains(text);
        }
    }

    static final class Country {
        final Map<String, String> sorts = new HashMap<>();
        final List<String> places = new ArrayList<>();
        final List<String> deeds = new ArrayList<>();
        final List<String> laws = new ArrayList<>();
        final List<String> men = new ArrayList<>();
        final Set<String> roads = new HashSet<>();
        final List<Integer> lengths = new ArrayList<>();
        final List<Set<Integer>> forbids = new ArrayList<>();
        final List<Integer> repeals = new ArrayList<>();
        final List<Integer> homes = new ArrayList<>();
        final List<Integer> sights = new ArrayList<>();
        final Map<Integer, List<Integer>> rounds = new HashMap<>();
        final Map<Integer, Integer> clerks = new HashMap<>();
        final Set<String> posts = new HashSet<>();

        boolean road(int a, int b) {
            return roads.contains(Math.min(a, b) + "-" + Math.max(a, b));
        }
    }

    static final class State {
        int day;
        int rains;
        Set<String> posts = new HashSet<>(); // "law@place"
        int[] place = new int[6];
        boolean[] blinkers = new boolean[6];
        boolean[] went = new boolean[6];
        int[] did = new int[6];
        int[] looked = new int[6];
        int[][] words = new int[6][6];
        int[][] read = new int[6][6];

        State copy() {
            State s = new State();
            s.day = day;
            s.rains = rains;
            s.posts = new HashSet<>(posts);
            s.place = place.clone();
            s.blinkers = blinkers.clone();
            s.went = went.clone();
            s.did = did.clone();
            s.looked = looked.clone();
            for (int m = 0; m < 6; m++) {
                s.words[m] = words[m].clone();
                s.read[m] = read[m].clone();
            }
            return s;
        }
    }

    interface Said {
        boolean of(int m);
    }

    private String tape = "";
    private Country c = new Country();
    private State s = new State();
    private Said sentence = null;
    private final Deque<State> past = new ArrayDeque<>();
    private int fault = 0;
    private List<Integer> route = new ArrayList<>();
    private int posted = -1;
    private int surely = -1;
    private int[] told = null;
    private final Object[][] images = new Object[2][];

    private List<Token> tokens;
    private int here;
    private int ones;

    // ---- tape

    int feed(int... five) {
        if (tape.length() + 20 > 940) {
            return -1;
        }
        StringBuilder more = new StringBuilder(tape);
        for (int number : five) {
            for (int i = 3; i >= 0; i--) {
                more.append((char) (number >>> (8 * i) & 255));
            }
        }
        tape = more.toString();
        return tape.length();
    }

    boolean end(int n) {
        if (n < 0 || n > tape.length()) {
            return false;
        }
        tape = tape.substring(0, n);
        return true;
    }

    // ---- texts

    private void cut(int most) {
        tokens = new ArrayList<>();
        here = 0;
        Matcher m = Pattern.compile("[a-z0-9]+|[^ \\n]", Pattern.DOTALL).matcher(tape);
        while (m.find()) {
            if (m.start() < most) {
                String t = m.group();
                char sort = t.matches("[a-z]{1,7}") ? 'w' : t.matches("[0-9]{1,2}") ? 'n' : t.matches("[;<=>()]") ? 's' : 'x';
                tokens.add(new Token(t, m.start(), sort));
            }
        }
        tokens.add(tape.length() > most ? new Token("", most, 'x') : new Token("", tape.length(), 'e'));
        tape = "";
    }

    private Token look() {
        return tokens.get(Math.min(here, tokens.size() - 1));
    }

    private void need(boolean fits, int kind) {
        if (!fits) {
            throw new Fault(kind, look().at);
        }
    }

    private String word() {
        return look().sort == 'w' ? look().text : "";
    }

    private void sign(String text) {
        need(look().is(text), 1);
        here++;
    }

    private int number(int low, int high) {
        need(look().sort == 'n', 1);
        int value = Integer.parseInt(look().text);
        need(value >= low && value <= high, 2);
        here++;
        return value;
    }

    /** The number of the name here, which stays for further needs. */
    private int name(Country k, String sort) {
        need(look().isName(), 1);
        need(sort.equals(k.sorts.get(look().text)), 3);
        List<String> all = sort.equals("place") ? k.places : sort.equals("deed") ? k.deeds : sort.equals("law") ? k.laws : k.men;
        return all.indexOf(look().text);
    }

    private void newName(Country k, String sort, List<String> all) {
        need(look().isName(), 1);
        need(!k.sorts.containsKey(look().text), 3);
        k.sorts.put(look().text, sort);
        all.add(look().text);
        here++;
    }

    int land() {
        fault = 0;
        cut(900);
        try {
            Country k = new Country();
            int lines = 0;
            while (look().sort != 'e') {
                landLine(k);
                sign(";");
                lines++;
            }
            c = k;
            s = new State();
            for (int m = 0; m < c.men.size(); m++) {
                s.place[m] = c.homes.get(m);
            }
            s.posts.addAll(c.posts);
            for (int m = 0; m < c.men.size(); m++) {
                readAll(s, m);
            }
            sentence = null;
            past.clear();
            return lines;
        } catch (Fault f) {
            fault = f.kind;
            return -1 - f.at;
        }
    }

    private void landLine(Country k) {
        String w = word();
        need(Arrays.asList("place", "road", "deed", "law", "repeal", "man", "round", "clerk", "post").contains(w), 1);
        need(!(w.equals("place") && k.places.size() == 10), 4);
        need(!(w.equals("road") && k.roads.size() == 16), 4);
        need(!(w.equals("deed") && k.deeds.size() == 5), 4);
        need(!((w.equals("law") || w.equals("repeal")) && k.laws.size() == 6), 4);
        need(!(w.equals("man") && k.men.size() == 6), 4);
        here++;
        if (w.equals("place")) {
            newName(k, "place", k.places);
        } else if (w.equals("deed")) {
            newName(k, "deed", k.deeds);
        } else if (w.equals("road")) {
            int a = name(k, "place");
            here++;
            int b = name(k, "place");
            need(a != b && !k.road(a, b), 3);
            k.roads.add(Math.min(a, b) + "-" + Math.max(a, b));
            here++;
        } else if (w.equals("law")) {
            newName(k, "law", k.laws);
            k.lengths.add(number(1, 30));
            k.repeals.add(-1);
            Set<Integer> deeds = new HashSet<>();
            do {
                int d = name(k, "deed");
                need(deeds.add(d), 3);
                here++;
            } while (!look().is(";"));
            k.forbids.add(deeds);
        } else if (w.equals("repeal")) {
            newName(k, "law", k.laws);
            k.lengths.add(number(1, 30));
            int l = name(k, "law");
            need(l < k.repeals.size() && k.repeals.get(l) == -1, 3);
            k.repeals.add(l);
            k.forbids.add(new HashSet<>());
            here++;
        } else if (w.equals("man")) {
            newName(k, "man", k.men);
            k.homes.add(name(k, "place"));
            here++;
            k.sights.add(number(0, 9));
        } else if (w.equals("round")) {
            int m = name(k, "man");
            need(!k.rounds.containsKey(m), 3);
            here++;
            List<Integer> stops = new ArrayList<>();
            do {
                int p = name(k, "place");
                need(stops.size() < 8, 4);
                stops.add(p);
                here++;
            } while (!look().is(";"));
            k.rounds.put(m, stops);
        } else if (w.equals("clerk")) {
            int m = name(k, "man");
            need(!k.clerks.containsKey(m), 3);
            here++;
            int other = name(k, "man");
            need(other != m, 3);
            k.clerks.put(m, other);
            here++;
        } else {
            int l = name(k, "law");
            here++;
            int p = name(k, "place");
            need(k.posts.add(l + "@" + p), 3);
            here++;
        }
    }

    int fault() {
        return fault;
    }

    // ---- bits

    private static int bits(int n, IntPredicate in) {
        int all = 0;
        for (int i = 0; i < n; i++) {
            if (in.test(i)) {
                all |= 1 << i;
            }
        }
        return all;
    }

    private boolean isMan(int m) {
        return m >= 0 && m < c.men.size();
    }

    private boolean isPlace(int p) {
        return p >= 0 && p < c.places.size();
    }

    private boolean isLaw(int l) {
        return l >= 0 && l < c.laws.size();
    }

    private boolean up(State t, int l, int p) {
        return t.posts.contains(l + "@" + p);
    }

    private boolean bare(State t, int p) {
        return bits(c.laws.size(), l -> up(t, l, p)) == 0;
    }

    // ---- telling

    int law(int l, int what) {
        if (!isLaw(l) || what < 0 || what > 3) {
            return -1;
        }
        int[] all = {c.lengths.get(l), bits(5, d -> c.forbids.get(l).contains(d)), c.repeals.get(l),
            bits(c.places.size(), p -> up(s, l, p))};
        return all[what];
    }

    int man(int m, int what) {
        if (!isMan(m) || what < 0 || what > 5) {
            throw new NoSuchElementException();
        }
        int[] all = {s.place[m], c.sights.get(m), s.blinkers[m] ? 1 : 0, c.clerks.getOrDefault(m, -1), s.went[m] ? 1 : 0, s.did[m]};
        return all[what];
    }

    int place(int p, int what) {
        if (!isPlace(p) || what < 0 || what > 2) {
            return -1;
        }
        int[] all = {bits(c.places.size(), q -> c.road(p, q)), bits(c.laws.size(), l -> up(s, l, p)),
            bits(c.men.size(), m -> s.place[m] == p)};
        return all[what];
    }

    int now(int what) {
        if (what < 0 || what > 5) {
            return -1;
        }
        int[] all = {s.day, s.posts.size(), Arrays.stream(s.did).sum(), bits(6, m -> s.blinkers[m]), s.rains, free(s)};
        return all[what];
    }

    private int free(State t) {
        return bits(c.men.size(), m -> binding(t, m) == 0);
    }

    // ---- what happens

    private void read(State t, int m, int l) {
        if (t.blinkers[m]) {
            return;
        }
        t.words[m][l] = Math.min(c.lengths.get(l), t.words[m][l] + c.sights.get(m));
        t.read[m][l] = t.day;
        if (c.clerks.containsKey(m)) {
            int other = c.clerks.get(m);
            if (t.words[other][l] < t.words[m][l]) {
                t.words[other][l] = t.words[m][l];
            }
            t.read[other][l] = t.day;
        }
    }

    private void readAll(State t, int m) {
        for (int l = 0; l < c.laws.size(); l++) {
            if (up(t, l, t.place[m])) {
                read(t, m, l);
            }
        }
    }

    /** Does it, if it can be, and tells why not. */
    private int happen(State t, String what, int a, int b) {
        switch (what) {
            case "goes":
                if (t.went[a]) {
                    return 1;
                }
                if (!c.road(t.place[a], b)) {
                    return 2;
                }
                t.went[a] = true;
                t.place[a] = b;
                readAll(t, a);
                return 0;
            case "does":
                if ((barring(t, a) & 1 << b) != 0) {
                    return 1;
                }
                t.did[a]++;
                return 0;
            case "wears":
                if (t.blinkers[a]) {
                    return 1;
                }
                t.blinkers[a] = true;
                return 0;
            case "bares":
                if (!t.blinkers[a]) {
                    return 1;
                }
                t.blinkers[a] = false;
                readAll(t, a);
                return 0;
            case "fevers":
                if (Arrays.stream(t.words[a]).sum() == 0) {
                    return 1;
                }
                t.words[a] = new int[6];
                return 0;
            case "posts":
                if (!t.posts.add(a + "@" + b)) {
                    return 1;
                }
                for (int m = 0; m < c.men.size(); m++) {
                    if (t.place[m] == b) {
                        read(t, m, a);
                    }
                }
                return 0;
            case "rains":
                if (bare(t, a)) {
                    return 1;
                }
                t.posts.removeIf(post -> post.endsWith("@" + a));
                t.rains++;
                return 0;
            default:
                if (t.day + a > 400) {
                    return 1;
                }
                for (int i = 0; i < a; i++) {
                    dayEnds(t);
                }
                return 0;
        }
    }

    private void dayEnds(State t) {
        for (int m = 0; m < 6; m++) {
            for (int l = 0; l < 6; l++) {
                if (t.day == t.read[m][l] + 9) {
                    t.words[m][l] = 0;
                }
            }
        }
        t.day++;
        Arrays.fill(t.went, false);
        for (int m = 0; m < c.men.size(); m++) {
            List<Integer> round = c.rounds.get(m);
            if (round == null) {
                continue;
            }
            int p = round.get(t.looked[m] % round.size());
            t.looked[m]++;
            if (p == t.place[m] || c.road(p, t.place[m])) {
                t.place[m] = p;
                readAll(t, m);
            }
        }
    }

    private void remember(State before) {
        past.addLast(before);
        if (past.size() > 8) {
            past.removeFirst();
        }
    }

    private int done(boolean such, String what, int a, int b) {
        if (!such) {
            return -1;
        }
        State before = s.copy();
        int why = happen(s, what, a, b);
        if (why == 0) {
            remember(before);
        }
        return why;
    }

    int go(int m, int p) {
        return done(isMan(m) && isPlace(p), "goes", m, p);
    }

    int act(int m, int d) {
        return done(isMan(m) && d >= 0 && d < c.deeds.size(), "does", m, d);
    }

    int wear(int m, int on) {
        return done(isMan(m) && (on == 0 || on == 1), on == 1 ? "wears" : "bares", m, 0);
    }

    int fever(int m) {
        return done(isMan(m), "fevers", m, 0);
    }

    int post(int l, int p) {
        return done(isLaw(l) && isPlace(p), "posts", l, p);
    }

    int rain(int p) {
        return done(isPlace(p), "rains", p, 0);
    }

    int days(int n) {
        if (n < 1 || n > 60) {
            return -1;
        }
        int gone = Math.min(n, 400 - s.day);
        if (gone > 0) {
            done(true, "day", gone, 0);
        }
        return gone;
    }

    int undo() {
        if (past.isEmpty()) {
            return -1;
        }
        s = past.removeLast();
        return past.size();
    }

    // ---- bound

    int words(int m, int l) {
        return isMan(m) && isLaw(l) ? s.words[m][l] : -1;
    }

    private int stateOf(State t, int m, int l) {
        int half = 2 * t.words[m][l] - c.lengths.get(l);
        return t.words[m][l] == c.lengths.get(l) ? 2 : half >= 0 ? 1 : 0;
    }

    int state(int m, int l) {
        return isMan(m) && isLaw(l) ? stateOf(s, m, l) : -1;
    }

    private boolean repealed(State t, int m, int l) {
        for (int r = 0; r < c.laws.size(); r++) {
            if (c.repeals.get(r) == l && stateOf(t, m, r) == 2) {
                return true;
            }
        }
        return false;
    }

    private boolean binds(State t, int m, int l) {
        int state = stateOf(t, m, l);
        return c.repeals.get(l) == -1 && !repealed(t, m, l) && (state == 2 || state == 1 && t.day % 2 == 0);
    }

    private int binding(State t, int m) {
        return bits(c.laws.size(), l -> binds(t, m, l));
    }

    private int barring(State t, int m) {
        return bits(c.deeds.size(), d -> bits(c.laws.size(), l -> binds(t, m, l) && c.forbids.get(l).contains(d)) != 0);
    }

    int binds(int m) {
        return isMan(m) ? binding(s, m) : -1;
    }

    int barred(int m) {
        return isMan(m) ? barring(s, m) : -1;
    }

    int lifted(int m) {
        return isMan(m) ? bits(c.laws.size(), l -> stateOf(s, m, l) == 2 && repealed(s, m, l)) : -1;
    }

    int bound(int l) {
        return isLaw(l) ? bits(c.men.size(), m -> binds(s, m, l)) : -1;
    }

    int forgets(int m, int l) {
        if (!isMan(m) || !isLaw(l) || s.words[m][l] == 0) {
            return -1;
        }
        State t = s.copy();
        for (int i = 1; i <= 20; i++) {
            if (t.read[m][l] + 9 == t.day) {
                return i;
            }
            t.day++;
        }
        return -99;
    }

    // ---- ways

    /** The best of all ways without a place twice: the shortest, of like ones the first by places. */
    private List<Integer> best(int from, int to, int set) {
        List<Integer> found = new ArrayList<>();
        List<Integer> walk = new ArrayList<>();
        if (from == to) {
            return walk;
        }
        for (int most = 1; most < c.places.size() && found.isEmpty(); most++) {
            search(from, to, set, most, walk, found);
        }
        return found.isEmpty() ? null : found;
    }

    private void search(int from, int to, int set, int left, List<Integer> walk, List<Integer> found) {
        for (int p = 0; p < c.places.size() && found.isEmpty(); p++) {
            int q = p;
            if (!c.road(from, p) || walk.contains(p) || bits(c.laws.size(), l -> (set >> l & 1) == 1 && up(s, l, q)) != 0) {
                continue;
            }
            walk.add(p);
            if (p == to) {
                found.addAll(walk);
            } else if (left > 1) {
                search(p, to, set, left - 1, walk, found);
            }
            walk.remove(walk.size() - 1);
        }
    }

    int way(int m, int p, int set) {
        if (!isMan(m) || !isPlace(p) || set < 0 || set >> c.laws.size() != 0) {
            return -1;
        }
        List<Integer> found = best(s.place[m], p, set);
        if (found == null) {
            return -1;
        }
        route = found;
        return found.size();
    }

    int step(int i) {
        return i >= 0 && i < route.size() ? route.get(i) : -1;
    }

    int meets(int m, int p) {
        if (!isMan(m) || !isPlace(p)) {
            return -1;
        }
        List<Integer> found = best(s.place[m], p, 0);
        if (found == null) {
            return -1;
        }
        return bits(c.laws.size(), l -> s.words[m][l] < c.lengths.get(l) && found.stream().anyMatch(q -> up(s, l, q)));
    }

    private boolean through(int from, int to, int closed, Set<Integer> been) {
        if (from == to) {
            return true;
        }
        been.add(from);
        for (int p = 0; p < c.places.size(); p++) {
            if (c.road(from, p) && (closed >> p & 1) == 0 && !been.contains(p) && through(p, to, closed, been)) {
                return true;
            }
        }
        return false;
    }

    int boards(int a, int b, int l) {
        if (!isPlace(a) || !isPlace(b) || a == b || !isLaw(l)) {
            return -1;
        }
        int there = law(l, 3);
        int best = -1;
        for (int set = 0; set < 1 << c.places.size(); set++) {
            int closed = there | set;
            boolean ends = (there >> a & 1) == 1 || (there >> b & 1) == 1;
            if ((set >> a & 1) == 0 && (set >> b & 1) == 0 && (ends || !through(a, b, closed, new HashSet<>()))
                    && (best == -1 || Integer.bitCount(set) < Integer.bitCount(best))) {
                best = set;
            }
        }
        return best;
    }

    int posts(int l, int n) {
        if (!isLaw(l) || n < 1 || n > 3 || c.places.size() < n) {
            return -1;
        }
        int best = -1;
        for (int set = 0; set < 1 << c.places.size(); set++) {
            if (Integer.bitCount(set) == n) {
                State t = s.copy();
                for (int p = 0; p < c.places.size(); p++) {
                    if ((set >> p & 1) == 1) {
                        happen(t, "posts", l, p);
                    }
                }
                happen(t, "day", Math.min(7, 400 - t.day), 0);
                int men = bits(c.men.size(), m -> stateOf(t, m, l) == 2);
                if (best == -1 || Integer.bitCount(men) > Integer.bitCount(posted)) {
                    best = set;
                    posted = men;
                }
            }
        }
        return best;
    }

    int posted() {
        return posted;
    }

    int reads(int deeds) {
        if (deeds < 0 || deeds >> c.deeds.size() != 0) {
            return -1;
        }
        List<Integer> sets = new ArrayList<>();
        for (int set = 0; set < 1 << c.laws.size(); set++) {
            Set<Integer> together = new HashSet<>();
            boolean plain = true;
            for (int l = 0; l < c.laws.size(); l++) {
                if ((set >> l & 1) == 1) {
                    plain &= c.repeals.get(l) == -1;
                    together.addAll(c.forbids.get(l));
                }
            }
            if (plain && bits(5, together::contains) == deeds) {
                sets.add(set);
            }
        }
        if (!sets.isEmpty()) {
            surely = sets.stream().reduce(-1, (x, y) -> x & y);
        }
        return sets.size();
    }

    int surely() {
        return surely;
    }

    int when(int m, int l, int n) {
        if (!isMan(m) || !isLaw(l) || n < 1 || n > 60) {
            return -1;
        }
        State t = s.copy();
        while (!binds(t, m, l)) {
            if (t.day == s.day + n || t.day == 400) {
                return -1;
            }
            dayEnds(t);
        }
        return t.day;
    }

    int clerks(int m) {
        return isMan(m) ? bits(c.men.size(), k -> readsFor(k, m)) : -1;
    }

    private boolean readsFor(int k, int m) {
        int who = k;
        for (int i = 0; i < 10; i++) {
            who = c.clerks.getOrDefault(who, -1);
            if (who == m) {
                return true;
            }
            if (who == -1) {
                return false;
            }
        }
        return false;
    }

    // ---- draws

    private void drawDays(State t, int n, int seed) {
        int[] x = {seed};
        for (int i = 0; i < n && t.day < 400; i++) {
            if (draw(x, 4) == 0) {
                happen(t, "rains", draw(x, c.places.size()), 0);
            }
            for (int m = 0; m < c.men.size(); m++) {
                if (draw(x, 20) == 0) {
                    happen(t, "fevers", m, 0);
                } else if (draw(x, 3) == 0) {
                    happen(t, "goes", m, draw(x, c.places.size()));
                }
            }
            dayEnds(t);
        }
    }

    private static int draw(int[] x, int n) {
        x[0] = (int) (x[0] * 1103515245L + 12345L);
        return (int) (((x[0] & 0xffffffffL) >> 8) % n);
    }

    int drawn(int n, int seed) {
        if (n < 1 || n > 60 || c.places.isEmpty()) {
            return -1;
        }
        State before = s.copy();
        drawDays(s, n, seed);
        if (s.day > before.day) {
            remember(before);
        }
        return s.day - before.day;
    }

    int odds(int m, int n, int seed) {
        if (!isMan(m) || n < 1 || n > 30) {
            return -1;
        }
        int free = 0;
        for (int i = 0; i < n; i++) {
            State t = s.copy();
            drawDays(t, 20, seed + i);
            free += binding(t, m) == 0 ? 1 : 0;
        }
        return free;
    }

    // ---- diaries

    int diary(int lives) {
        if (lives < 0 || lives > 1) {
            return -1000;
        }
        fault = 0;
        cut(400);
        List<Object[]> lines = new ArrayList<>();
        try {
            while (look().sort != 'e') {
                lines.add(diaryLine(lines.size()));
                sign(";");
            }
        } catch (Fault f) {
            fault = f.kind;
            return -2 - f.at;
        }
        State t = s.copy();
        int why = 0;
        int right = 0;
        for (Object[] line : lines) {
            why = happen(t, (String) line[0], (Integer) line[1], (Integer) line[2]);
            if (why != 0) {
                why += 10 * Arrays.asList("goes", "does", "wears", "bares", "fevers", "posts", "rains", "day").indexOf(line[0]);
                break;
            }
            right++;
        }
        told = new int[] {why, right, t.day, free(t)};
        if (lives == 1) {
            remember(s);
            s = t;
        }
        return why == 0 ? -1 : right;
    }

    private Object[] diaryLine(int ahead) {
        String w = word();
        if (w.equals("posts") || w.equals("rains") || w.equals("day")) {
            need(ahead < 40, 4);
            here++;
            if (w.equals("day")) {
                return new Object[] {w, number(1, 60), 0};
            }
            int l = 0;
            if (w.equals("posts")) {
                l = name(c, "law");
                here++;
            }
            int p = name(c, "place");
            here++;
            return w.equals("posts") ? new Object[] {w, l, p} : new Object[] {w, p, 0};
        }
        int m = name(c, "man");
        need(ahead < 40, 4);
        here++;
        String v = word();
        need(Arrays.asList("goes", "does", "wears", "bares", "fevers").contains(v), 1);
        here++;
        int b = 0;
        if (v.equals("goes") || v.equals("does")) {
            b = name(c, v.equals("goes") ? "place" : "deed");
            here++;
        }
        return new Object[] {v, m, b};
    }

    int told(int what) {
        return told == null || what < 0 || what > 3 ? -1 : told[what];
    }

    // ---- sentences

    int sentence() {
        fault = 0;
        cut(200);
        ones = 0;
        try {
            Said said = cond(0);
            need(look().sort == 'e', 1);
            sentence = said;
            return ones;
        } catch (Fault f) {
            fault = f.kind;
            return -1 - f.at;
        }
    }

    private Said cond(int round) {
        Said left = all(round);
        while (look().is("or")) {
            here++;
            Said first = left;
            Said second = all(round);
            left = m -> first.of(m) || second.of(m);
        }
        return left;
    }

    private Said all(int round) {
        Said left = one(round);
        while (look().is("and")) {
            here++;
            Said first = left;
            Said second = one(round);
            left = m -> first.of(m) && second.of(m);
        }
        return left;
    }

    /** round: how many ONES this one is within. */
    private Said one(int round) {
        String w = look().is("(") ? "(" : word();
        need(Arrays.asList("not", "(", "blind", "free", "bound", "may", "in", "sight", "words", "did", "number").contains(w), 1);
        need(ones < 20 && round < 8, 4);
        ones++;
        here++;
        int n;
        switch (w) {
            case "not":
                Said inner = one(round + 1);
                return m -> !inner.of(m);
            case "(":
                Said whole = cond(round + 1);
                sign(")");
                return whole;
            case "blind":
                return m -> s.blinkers[m] || c.sights.get(m) == 0;
            case "free":
                return m -> binding(s, m) == 0;
            case "bound":
                n = name(c, "law");
                here++;
                return m -> binds(s, m, n);
            case "may":
                n = name(c, "deed");
                here++;
                return m -> (barring(s, m) >> n & 1) == 0;
            case "in":
                n = name(c, "place");
                here++;
                return m -> s.place[m] == n;
            default:
                return compared(w);
        }
    }

    private Said compared(String w) {
        need(look().is("<") || look().is("=") || look().is(">"), 1);
        char sign = look().text.charAt(0);
        here++;
        int n = number(0, 99);
        return m -> {
            int value = w.equals("sight") ? c.sights.get(m) : w.equals("words") ? Arrays.stream(s.words[m]).sum()
                    : w.equals("did") ? s.did[m] : m;
            return sign == '<' ? value < n : sign == '=' ? value == n : value > n;
        };
    }

    int said(int k) {
        if (sentence == null) {
            return -1;
        }
        List<Integer> men = new ArrayList<>();
        for (int m = 0; m < c.men.size(); m++) {
            if (sentence.of(m)) {
                men.add(m);
            }
        }
        return k == -1 ? men.size() : k >= 0 && k < men.size() ? men.get(k) : -1;
    }

    // ---- images

    boolean image(int k) {
        if (k < 0 || k > 1) {
            return false;
        }
        images[k] = new Object[] {c, s.copy(), sentence};
        return true;
    }

    boolean restore(int k) {
        if (k < 0 || k > 1 || images[k] == null) {
            return false;
        }
        c = (Country) images[k][0];
        s = ((State) images[k][1]).copy();
        sentence = (Said) images[k][2];
        past.clear();
        return true;
    }

    int count(int what) {
        int[] all = {c.places.size(), c.roads.size(), c.deeds.size(), c.laws.size(), c.men.size(), tape.length()};
        return what >= 0 && what <= 5 ? all[what] : -1;
    }
}
