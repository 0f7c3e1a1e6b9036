import java.util.NoSuchElementException;

/** A land in which a law binds only him who has read it; the document's promises tell each call. */
public final class ReadBound {
    public static final int NONE = -1;

    private static final int MOST_PLACES = 10;
    private static final int MOST_ROADS = 16;
    private static final int MOST_DEEDS = 5;
    private static final int MOST_LAWS = 6;
    private static final int MOST_MEN = 6;
    private static final int MOST_NAMES = MOST_PLACES + MOST_DEEDS + MOST_LAWS + MOST_MEN;
    private static final int MOST_STOPS = 8;
    private static final int MOST_LENGTH = 30;
    private static final int MOST_SIGHT = 9;
    private static final int MOST_LINES = 40;
    private static final int MOST_ONES = 20;
    private static final int MOST_WITHIN = 8;
    private static final int MOST_DAYS = 60;
    private static final int MOST_SEEDS = 30;
    private static final int MOST_POSTS = 3;
    private static final int LAST_DAY = 400;
    private static final int KEPT_DAYS = 9;
    private static final int POSTS_DAYS = 7;
    private static final int ODDS_DAYS = 20;

    private static final int TAPE_BYTES = 940;
    private static final int LAND_BYTES = 900;
    private static final int DIARY_BYTES = 400;
    private static final int SENTENCE_BYTES = 200;

    private static final int NO_TOKEN = 1;
    private static final int BAD_NUMBER = 2;
    private static final int BAD_NAME = 3;
    private static final int TOO_MANY = 4;

    private static final String VOCABULARY =
            "place road deed law repeal man round clerk post goes does wears bares fevers posts rains day or and not blind free bound may in sight words did number";
    private static final int VOCABULARY_SIZE = 29;
    private static final int PLACE = 0;
    private static final int ROAD = 1;
    private static final int DEED = 2;
    private static final int LAW = 3;
    private static final int REPEAL = 4;
    private static final int MAN = 5;
    private static final int ROUND = 6;
    private static final int CLERK = 7;
    private static final int POST = 8;
    private static final int GOES = 9;
    private static final int DOES = 10;
    private static final int WEARS = 11;
    private static final int BARES = 12;
    private static final int FEVERS = 13;
    private static final int POSTS = 14;
    private static final int RAINS = 15;
    private static final int DAY = 16;
    private static final int OR = 17;
    private static final int AND = 18;
    private static final int NOT = 19;
    private static final int BLIND = 20;
    private static final int FREE = 21;
    private static final int BOUND = 22;
    private static final int MAY = 23;
    private static final int IN = 24;
    private static final int SIGHT = 25;
    private static final int WORDS = 26;
    private static final int DID = 27;
    private static final int NUMBER = 28;

    private final Tokens tokens;
    private final Land land;
    private final Land spareLand;
    private final LandReader landReader;
    private final Life life;
    private final Life trial;
    private final Past past;
    private final Sentence sentence;
    private final Sentence spareSentence;
    private final SentenceReader sentenceReader;
    private final Diary diary;
    private final Route route;
    private final Route scout;
    private final Image firstImage;
    private final Image secondImage;
    private final int[] told;
    private boolean diaryTold;
    private int posted;
    private int surely;

    public ReadBound() {
        tokens = new Tokens();
        land = new Land();
        spareLand = new Land();
        landReader = new LandReader(tokens, spareLand);
        life = new Life(land.facts);
        trial = new Life(land.facts);
        past = new Past();
        sentence = new Sentence();
        spareSentence = new Sentence();
        sentenceReader = new SentenceReader(tokens, land, spareSentence);
        diary = new Diary(tokens, land);
        route = new Route(land.facts);
        scout = new Route(land.facts);
        firstImage = new Image();
        secondImage = new Image();
        told = new int[4];
        diaryTold = false;
        posted = NONE;
        surely = NONE;
    }

    // ---- texts

    public int feed(int a, int b, int c, int d, int e) {
        if (tokens.bytes + 20 > TAPE_BYTES) {
            return NONE;
        }
        tokens.addFour(a);
        tokens.addFour(b);
        tokens.addFour(c);
        tokens.addFour(d);
        tokens.addFour(e);
        return tokens.bytes;
    }

    public boolean end(int n) {
        if (n < 0 || n > tokens.bytes) {
            return false;
        }
        tokens.bytes = n;
        return true;
    }

    public int land() {
        int lines = landReader.readLines();
        tokens.bytes = 0;
        if (lines == NONE) {
            return -1 - tokens.faultAt;
        }
        land.copyFrom(spareLand);
        life.begin();
        sentence.clear();
        past.forget();
        return lines;
    }

    public int fault() {
        return tokens.fault;
    }

    // ---- what is so

    public int law(int l, int what) {
        if (!isOne(Land.LAWS, l)) {
            return NONE;
        }
        switch (what) {
            case 0:
                return at(land.facts, Land.LENGTH + l);
            case 1:
                return at(land.facts, Land.FORBIDS + l);
            case 2:
                return at(land.facts, Land.REPEALS + l);
            case 3:
                return life.placesOf(l);
            default:
                return NONE;
        }
    }

    public int man(int m, int what) throws NoSuchElementException {
        if (!isOne(Land.MEN, m) || what < 0 || what > 5) {
            throw new NoSuchElementException();
        }
        switch (what) {
            case 0:
                return at(life.cells, Life.PLACE_OF + m);
            case 1:
                return at(land.facts, Land.SIGHT_OF + m);
            case 2:
                return at(life.cells, Life.BLINKERS + m);
            case 3:
                return at(land.facts, Land.READS_FOR + m);
            case 4:
                return at(life.cells, Life.WENT + m);
            default:
                return at(life.cells, Life.DEEDS_OF + m);
        }
    }

    public int place(int p, int what) {
        if (!isOne(Land.PLACES, p)) {
            return NONE;
        }
        switch (what) {
            case 0:
                return at(land.facts, Land.ROADS_OF + p);
            case 1:
                return at(life.cells, Life.BOARD + p);
            case 2:
                return life.menIn(p);
            default:
                return NONE;
        }
    }

    public int now(int what) {
        switch (what) {
            case 0:
                return life.today();
            case 1:
                return life.postsInAll();
            case 2:
                return life.deedsInAll();
            case 3:
                return life.menWithBlinkers();
            case 4:
                return at(life.cells, Life.RAINS_SO_FAR);
            case 5:
                return life.freeMen();
            default:
                return NONE;
        }
    }

    // ---- acts

    public int go(int m, int p) {
        return isOne(Land.MEN, m) && isOne(Land.PLACES, p) ? attempt(GOES, m, p) : NONE;
    }

    public int act(int m, int d) {
        return isOne(Land.MEN, m) && isOne(Land.DEEDS, d) ? attempt(DOES, m, d) : NONE;
    }

    public int wear(int m, int on) {
        if (!isOne(Land.MEN, m) || on < 0 || on > 1) {
            return NONE;
        }
        return attempt(on == 1 ? WEARS : BARES, m, 0);
    }

    public int fever(int m) {
        return isOne(Land.MEN, m) ? attempt(FEVERS, m, 0) : NONE;
    }

    public int post(int l, int p) {
        return isOne(Land.LAWS, l) && isOne(Land.PLACES, p) ? attempt(POSTS, l, p) : NONE;
    }

    public int rain(int p) {
        return isOne(Land.PLACES, p) ? attempt(RAINS, p, 0) : NONE;
    }

    public int days(int n) {
        if (n < 1 || n > MOST_DAYS) {
            return NONE;
        }
        int gone = Math.min(n, LAST_DAY - life.today());
        if (gone > 0) {
            past.keep(life.cells);
            life.passDays(gone);
        }
        return gone;
    }

    public int undo() {
        return past.takeBack(life.cells);
    }

    // ---- who is bound by what

    public int words(int m, int l) {
        return isManAndLaw(m, l) ? life.wordsOf(m, l) : NONE;
    }

    public int state(int m, int l) {
        return isManAndLaw(m, l) ? life.stateOf(m, l) : NONE;
    }

    public int binds(int m) {
        return isOne(Land.MEN, m) ? life.bindingOn(m) : NONE;
    }

    public int barred(int m) {
        return isOne(Land.MEN, m) ? life.barredFor(m) : NONE;
    }

    public int lifted(int m) {
        return isOne(Land.MEN, m) ? life.liftedFor(m) : NONE;
    }

    public int bound(int l) {
        return isOne(Land.LAWS, l) ? life.menBoundBy(l) : NONE;
    }

    public int forgets(int m, int l) {
        if (!isManAndLaw(m, l) || life.wordsOf(m, l) == 0) {
            return NONE;
        }
        return life.readOn(m, l) + KEPT_DAYS + 1 - life.today();
    }

    // ---- ways and boards

    public int way(int m, int p, int set) {
        if (!isOne(Land.MEN, m) || !isOne(Land.PLACES, p) || !areBits(Land.LAWS, set)) {
            return NONE;
        }
        return route.find(at(life.cells, Life.PLACE_OF + m), p, life.placesOfAny(set));
    }

    public int step(int i) {
        return i >= 0 && i < route.length ? at(route.steps, i) : NONE;
    }

    public int meets(int m, int p) {
        if (!isOne(Land.MEN, m) || !isOne(Land.PLACES, p)) {
            return NONE;
        }
        int length = scout.find(at(life.cells, Life.PLACE_OF + m), p, 0);
        if (length == NONE) {
            return NONE;
        }
        int met = 0;
        for (int i = 0; i < length; i++) {
            met |= at(life.cells, Life.BOARD + at(scout.steps, i));
        }
        return met & ~life.wholeFor(m);
    }

    public int boards(int a, int b, int l) {
        if (!isOne(Land.PLACES, a) || !isOne(Land.PLACES, b) || a == b || !isOne(Land.LAWS, l)) {
            return NONE;
        }
        int ends = 1 << a | 1 << b;
        int there = life.placesOf(l);
        if ((there & ends) != 0) {
            return 0;
        }
        if (land.hasRoad(a, b)) {
            return NONE;
        }
        int places = count(0);
        for (int many = 0; many <= places; many++) {
            for (int set = 0; set < 1 << places; set++) {
                if (Integer.bitCount(set) == many && (set & ends) == 0
                        && land.parts(a, b, there | set)) {
                    return set;
                }
            }
        }
        return NONE;
    }

    public int posts(int l, int n) {
        int places = count(0);
        if (!isOne(Land.LAWS, l) || n < 1 || n > MOST_POSTS || n > places) {
            return NONE;
        }
        int best = NONE;
        int bestMen = 0;
        for (int set = 1; set < 1 << places; set++) {
            if (Integer.bitCount(set) != n) {
                continue;
            }
            int men = menWhoHaveAll(l, set);
            if (best == NONE || Integer.bitCount(men) > Integer.bitCount(bestMen)) {
                best = set;
                bestMen = men;
            }
        }
        posted = bestMen;
        return best;
    }

    public int posted() {
        return posted;
    }

    public int reads(int deeds) {
        if (!areBits(Land.DEEDS, deeds)) {
            return NONE;
        }
        int sets = 0;
        int inEach = (1 << count(3)) - 1;
        for (int set = 0; set < 1 << count(3); set++) {
            if (land.forbiddenBy(set) == deeds) {
                sets++;
                inEach &= set;
            }
        }
        if (sets > 0) {
            surely = inEach;
        }
        return sets;
    }

    public int surely() {
        return surely;
    }

    public int when(int m, int l, int n) {
        if (!isManAndLaw(m, l) || n < 1 || n > MOST_DAYS) {
            return NONE;
        }
        trial.copyFrom(life);
        for (int i = 0; i <= n; i++) {
            if ((trial.bindingOn(m) >> l & 1) == 1) {
                return trial.today();
            }
            if (i < n) {
                trial.passDays(1);
            }
        }
        return NONE;
    }

    public int clerks(int m) {
        return isOne(Land.MEN, m) ? land.clerksOf(m) : NONE;
    }

    // ---- draws

    public int drawn(int n, int seed) {
        if (n < 1 || n > MOST_DAYS || count(0) == 0) {
            return NONE;
        }
        int gone = Math.min(n, LAST_DAY - life.today());
        if (gone > 0) {
            past.keep(life.cells);
            life.drawDays(gone, seed);
        }
        return gone;
    }

    public int odds(int m, int n, int seed) {
        if (!isOne(Land.MEN, m) || n < 1 || n > MOST_SEEDS) {
            return NONE;
        }
        int free = 0;
        for (int i = 0; i < n; i++) {
            trial.copyFrom(life);
            trial.drawDays(ODDS_DAYS, seed + i);
            if (trial.bindingOn(m) == 0) {
                free++;
            }
        }
        return free;
    }

    // ---- diaries and sentences

    public int diary(int lives) {
        if (lives != 0 && lives != 1) {
            return -1000;
        }
        boolean whole = diary.readLines();
        tokens.bytes = 0;
        if (!whole) {
            return -2 - tokens.faultAt;
        }
        if (lives == 1) {
            past.keep(life.cells);
            return judge(life);
        }
        trial.copyFrom(life);
        return judge(trial);
    }

    public int told(int what) {
        return diaryTold && what >= 0 && what < told.length ? at(told, what) : NONE;
    }

    public int sentence() {
        int ones = sentenceReader.readText();
        tokens.bytes = 0;
        if (ones == NONE) {
            return -1 - tokens.faultAt;
        }
        sentence.copyFrom(spareSentence);
        return ones;
    }

    public int said(int k) {
        if (sentence.size == 0) {
            return NONE;
        }
        int men = sentence.menOf(life);
        if (k == NONE) {
            return Integer.bitCount(men);
        }
        int nth = 0;
        for (int m = 0; m < count(4); m++) {
            if ((men >> m & 1) == 1) {
                if (nth == k) {
                    return m;
                }
                nth++;
            }
        }
        return NONE;
    }

    // ---- images

    public boolean image(int k) {
        if (k != 0 && k != 1) {
            return false;
        }
        imageIn(k).take(land, life, sentence);
        return true;
    }

    public boolean restore(int k) {
        if (k != 0 && k != 1 || !imageIn(k).kept) {
            return false;
        }
        imageIn(k).giveBack(land, life, sentence);
        past.forget();
        return true;
    }

    public int count(int what) {
        if (what >= 0 && what <= 4) {
            return at(land.facts, what);
        }
        return what == 5 ? tokens.bytes : NONE;
    }

    // ---- helpers of the calls

    private boolean isOne(int sort, int number) {
        return number >= 0 && number < at(land.facts, sort);
    }

    private boolean areBits(int sort, int bits) {
        return bits >= 0 && bits < 1 << at(land.facts, sort);
    }

    private boolean isManAndLaw(int m, int l) {
        return isOne(Land.MEN, m) && isOne(Land.LAWS, l);
    }

    private Image imageIn(int k) {
        return k == 0 ? firstImage : secondImage;
    }

    private int attempt(int what, int a, int b) {
        int why = life.whyNot(what, a, b);
        if (why == 0) {
            past.keep(life.cells);
            life.live(what, a, b);
        }
        return why;
    }

    private int menWhoHaveAll(int l, int set) {
        trial.copyFrom(life);
        for (int p = 0; p < count(0); p++) {
            if ((set >> p & 1) == 1 && trial.whyNot(POSTS, l, p) == 0) {
                trial.live(POSTS, l, p);
            }
        }
        trial.passDays(POSTS_DAYS);
        int men = 0;
        for (int m = 0; m < count(4); m++) {
            men |= (trial.wholeFor(m) >> l & 1) << m;
        }
        return men;
    }

    private int judge(Life where) {
        int wrong = NONE;
        int why = 0;
        for (int line = 0; line < diary.lines && wrong == NONE; line++) {
            int what = at(diary.whats, line);
            int a = at(diary.firsts, line);
            int b = at(diary.seconds, line);
            why = where.whyNot(what, a, b);
            if (why != 0) {
                why += 10 * (what - GOES);
                wrong = line;
            } else if (what == DAY) {
                where.passDays(a);
            } else {
                where.live(what, a, b);
            }
        }
        put(told, 0, why);
        put(told, 1, wrong == NONE ? diary.lines : wrong);
        put(told, 2, where.today());
        put(told, 3, where.freeMen());
        diaryTold = true;
        return wrong;
    }

    private static int at(int[] row, int i) {
        return i >= 0 && i < row.length ? row[i] : 0;
    }

    private static void put(int[] row, int i, int value) {
        if (i >= 0 && i < row.length) {
            row[i] = value;
        }
    }

    private static void copy(int[] from, int[] to) {
        System.arraycopy(from, 0, to, 0, Math.min(from.length, to.length));
    }

    /** The tape, its TOKENS one behind the other, and the FAULT of the latest text. */
    private static final class Tokens {
        static final int END = 0;
        static final int BAD = 1;
        static final int WORD = 2;
        static final int DIGITS = 3;
        static final int SIGN = 4;

        final byte[] tape;
        final long[] vocabulary;
        int bytes;
        int most;
        int next;
        int kind;
        int start;
        int value;
        long word;
        int keyword;
        int fault;
        int faultAt;

        Tokens() {
            tape = new byte[TAPE_BYTES];
            vocabulary = new long[VOCABULARY_SIZE];
            int k = 0;
            for (int i = 0; i < VOCABULARY.length(); i++) {
                char c = VOCABULARY.charAt(i);
                if (c == ' ') {
                    k++;
                } else if (k < vocabulary.length) {
                    vocabulary[k] = vocabulary[k] * 32 + (c - 'a' + 1);
                }
            }
        }

        void addFour(int number) {
            for (int shift = 24; shift >= 0; shift -= 8) {
                if (bytes >= 0 && bytes < tape.length) {
                    tape[bytes] = (byte) (number >> shift);
                    bytes++;
                }
            }
        }

        int byteAt(int i) {
            return i >= 0 && i < tape.length ? tape[i] & 255 : 0;
        }

        void begin(int mostBytes) {
            most = mostBytes;
            next = 0;
            fault = 0;
            faultAt = 0;
            advance();
        }

        void advance() {
            int i = next;
            while (i < bytes && (byteAt(i) == ' ' || byteAt(i) == '\n')) {
                i++;
            }
            value = 0;
            word = 0;
            keyword = NONE;
            if (i >= bytes || i >= most) {
                kind = bytes > most ? BAD : END;
                start = Math.min(bytes, most);
                return;
            }
            start = i;
            int c = byteAt(i);
            if (isLetter(c) || isDigit(c)) {
                readRun(i);
                return;
            }
            next = i + 1;
            value = c;
            kind = c == ';' || c == '<' || c == '=' || c == '>' || c == '(' || c == ')' ? SIGN : BAD;
        }

        void readRun(int i) {
            int letters = 0;
            int digits = 0;
            int j = i;
            while (j < bytes && (isLetter(byteAt(j)) || isDigit(byteAt(j)))) {
                int c = byteAt(j);
                if (isLetter(c)) {
                    letters++;
                    word = word * 32 + (c - 'a' + 1);
                } else {
                    digits++;
                    value = value * 10 + (c - '0');
                }
                j++;
            }
            next = j;
            kind = BAD;
            if (digits == 0 && letters <= 7) {
                kind = WORD;
                keyword = keywordOf(word);
            } else if (letters == 0 && digits <= 2) {
                kind = DIGITS;
            }
        }

        int keywordOf(long code) {
            for (int k = 0; k < vocabulary.length; k++) {
                if (vocabulary[k] == code) {
                    return k;
                }
            }
            return NONE;
        }

        static boolean isLetter(int c) {
            return c >= 'a' && c <= 'z';
        }

        static boolean isDigit(int c) {
            return c >= '0' && c <= '9';
        }

        boolean refuse(int why) {
            fault = why;
            faultAt = start;
            return false;
        }

        boolean isSign(char c) {
            return kind == SIGN && value == c;
        }

        boolean takeSign(char c) {
            if (!isSign(c)) {
                return refuse(NO_TOKEN);
            }
            advance();
            return true;
        }

        /** The NUMBER that is due here, or NONE behind a FAULT. */
        int takeNumber(int least, int greatest) {
            if (kind != DIGITS) {
                refuse(NO_TOKEN);
                return NONE;
            }
            if (value < least || value > greatest) {
                refuse(BAD_NUMBER);
                return NONE;
            }
            int number = value;
            advance();
            return number;
        }

        boolean isNameHere() {
            return kind == WORD && keyword == NONE;
        }

        /** Which of a sort is named here, or NONE behind a FAULT; stays, as its caller may refuse it still. */
        int nameHere(Land land, int sort) {
            if (!isNameHere()) {
                refuse(NO_TOKEN);
                return NONE;
            }
            int number = land.numberOf(word, sort);
            if (number == NONE) {
                refuse(BAD_NAME);
            }
            return number;
        }

        int takeName(Land land, int sort) {
            int number = nameHere(land, sort);
            if (number != NONE) {
                advance();
            }
            return number;
        }
    }

    /** What a LAND tells and no act changes; one row of numbers, so that it is copied whole. */
    private static final class Land {
        static final int PLACES = 0;
        static final int ROADS = 1;
        static final int DEEDS = 2;
        static final int LAWS = 3;
        static final int MEN = 4;
        static final int NAMES = 5;
        static final int ROADS_OF = 6;
        static final int POSTED_IN = ROADS_OF + MOST_PLACES;
        static final int LENGTH = POSTED_IN + MOST_PLACES;
        static final int FORBIDS = LENGTH + MOST_LAWS;
        static final int REPEALS = FORBIDS + MOST_LAWS;
        static final int BEGINS_IN = REPEALS + MOST_LAWS;
        static final int SIGHT_OF = BEGINS_IN + MOST_MEN;
        static final int READS_FOR = SIGHT_OF + MOST_MEN;
        static final int STOPS = READS_FOR + MOST_MEN;
        static final int ROUND_OF = STOPS + MOST_MEN;
        static final int SORT_OF = ROUND_OF + MOST_MEN * MOST_STOPS;
        static final int NUMBER_OF = SORT_OF + MOST_NAMES;
        static final int FACTS = NUMBER_OF + MOST_NAMES;

        final int[] facts;
        final long[] names;

        Land() {
            facts = new int[FACTS];
            names = new long[MOST_NAMES];
        }

        void clear() {
            for (int i = 0; i < facts.length; i++) {
                facts[i] = 0;
            }
        }

        void copyFrom(Land other) {
            copy(other.facts, facts);
            System.arraycopy(other.names, 0, names, 0, Math.min(other.names.length, names.length));
        }

        boolean isTold(long name) {
            for (int i = 0; i < at(facts, NAMES) && i < names.length; i++) {
                if (names[i] == name) {
                    return true;
                }
            }
            return false;
        }

        int numberOf(long name, int sort) {
            for (int i = 0; i < at(facts, NAMES) && i < names.length; i++) {
                if (names[i] == name && at(facts, SORT_OF + i) == sort) {
                    return at(facts, NUMBER_OF + i);
                }
            }
            return NONE;
        }

        /** Its number among its sort. */
        int addName(long name, int sort) {
            int i = at(facts, NAMES);
            int number = at(facts, sort);
            if (i >= 0 && i < names.length) {
                names[i] = name;
                put(facts, SORT_OF + i, sort);
                put(facts, NUMBER_OF + i, number);
                put(facts, NAMES, i + 1);
                put(facts, sort, number + 1);
            }
            return number;
        }

        void addBits(int where, int bits) {
            put(facts, where, at(facts, where) | bits);
        }

        boolean hasRoad(int a, int b) {
            return (at(facts, ROADS_OF + a) >> b & 1) == 1;
        }

        /** Whether no way leads from a to b, if nobody passes the closed PLACES. */
        boolean parts(int a, int b, int closed) {
            int reached = 1 << a;
            int before = 0;
            for (int round = 0; round < MOST_PLACES && reached != before; round++) {
                before = reached;
                for (int p = 0; p < MOST_PLACES; p++) {
                    if ((before >> p & 1) == 1) {
                        reached |= at(facts, ROADS_OF + p) & ~closed;
                    }
                }
            }
            return (reached >> b & 1) == 0;
        }

        /** DEEDS that LAWS forbid together; NONE, if a repeal is among them. */
        int forbiddenBy(int set) {
            int deeds = 0;
            for (int l = 0; l < at(facts, LAWS); l++) {
                if ((set >> l & 1) == 1) {
                    if (at(facts, REPEALS + l) != NONE) {
                        return NONE;
                    }
                    deeds |= at(facts, FORBIDS + l);
                }
            }
            return deeds;
        }

        int clerksOf(int m) {
            int clerks = 0;
            for (int round = 0; round < MOST_MEN; round++) {
                for (int clerk = 0; clerk < at(facts, MEN); clerk++) {
                    int other = at(facts, READS_FOR + clerk);
                    if (other == m || other != NONE && (clerks >> other & 1) == 1) {
                        clerks |= 1 << clerk;
                    }
                }
            }
            return clerks;
        }
    }

    /** Reads a LAND's text into a spare one, as a FAULT must leave the LAND that is. */
    private static final class LandReader {
        final Tokens tokens;
        final Land land;

        LandReader(Tokens tokens, Land land) {
            this.tokens = tokens;
            this.land = land;
        }

        /** How many LINES, or NONE behind a FAULT. */
        int readLines() {
            land.clear();
            tokens.begin(LAND_BYTES);
            for (int lines = 0; lines <= TAPE_BYTES; lines++) {
                if (tokens.kind == Tokens.END) {
                    return lines;
                }
                if (!readLine() || !tokens.takeSign(';')) {
                    return NONE;
                }
            }
            return NONE;
        }

        boolean readLine() {
            switch (tokens.keyword) {
                case PLACE:
                    return takeFirst(Land.PLACES, MOST_PLACES) && takeNewName(Land.PLACES) != NONE;
                case ROAD:
                    return takeFirst(Land.ROADS, MOST_ROADS) && readRoad();
                case DEED:
                    return takeFirst(Land.DEEDS, MOST_DEEDS) && takeNewName(Land.DEEDS) != NONE;
                case LAW:
                    return takeFirst(Land.LAWS, MOST_LAWS) && takeLawHead() && readDeeds();
                case REPEAL:
                    return takeFirst(Land.LAWS, MOST_LAWS) && takeLawHead() && readRepealed();
                case MAN:
                    return takeFirst(Land.MEN, MOST_MEN) && readMan();
                case ROUND:
                    tokens.advance();
                    return readRound();
                case CLERK:
                    tokens.advance();
                    return readClerk();
                case POST:
                    tokens.advance();
                    return readPost();
                default:
                    return tokens.refuse(NO_TOKEN);
            }
        }

        boolean takeFirst(int sort, int most) {
            if (at(land.facts, sort) >= most) {
                return tokens.refuse(TOO_MANY);
            }
            tokens.advance();
            return true;
        }

        int takeNewName(int sort) {
            if (!tokens.isNameHere()) {
                tokens.refuse(NO_TOKEN);
                return NONE;
            }
            if (land.isTold(tokens.word)) {
                tokens.refuse(BAD_NAME);
                return NONE;
            }
            int number = land.addName(tokens.word, sort);
            tokens.advance();
            return number;
        }

        boolean readRoad() {
            int a = tokens.takeName(land, Land.PLACES);
            if (a == NONE) {
                return false;
            }
            int b = tokens.nameHere(land, Land.PLACES);
            if (b == NONE) {
                return false;
            }
            if (a == b || land.hasRoad(a, b)) {
                return tokens.refuse(BAD_NAME);
            }
            land.addBits(Land.ROADS_OF + a, 1 << b);
            land.addBits(Land.ROADS_OF + b, 1 << a);
            put(land.facts, Land.ROADS, at(land.facts, Land.ROADS) + 1);
            tokens.advance();
            return true;
        }

        /** What a LAW and a repeal begin with. */
        boolean takeLawHead() {
            int l = takeNewName(Land.LAWS);
            if (l == NONE) {
                return false;
            }
            put(land.facts, Land.REPEALS + l, NONE);
            int length = tokens.takeNumber(1, MOST_LENGTH);
            put(land.facts, Land.LENGTH + l, length);
            return length != NONE;
        }

        boolean readDeeds() {
            int l = at(land.facts, Land.LAWS) - 1;
            if (!takeDeed(l)) {
                return false;
            }
            for (int i = 0; i < MOST_DEEDS && !tokens.isSign(';'); i++) {
                if (!takeDeed(l)) {
                    return false;
                }
            }
            return true;
        }

        boolean takeDeed(int l) {
            int d = tokens.nameHere(land, Land.DEEDS);
            if (d == NONE) {
                return false;
            }
            if ((at(land.facts, Land.FORBIDS + l) >> d & 1) == 1) {
                return tokens.refuse(BAD_NAME);
            }
            land.addBits(Land.FORBIDS + l, 1 << d);
            tokens.advance();
            return true;
        }

        boolean readRepealed() {
            int l = at(land.facts, Land.LAWS) - 1;
            int repealed = tokens.nameHere(land, Land.LAWS);
            if (repealed == NONE) {
                return false;
            }
            if (repealed == l || at(land.facts, Land.REPEALS + repealed) != NONE) {
                return tokens.refuse(BAD_NAME);
            }
            put(land.facts, Land.REPEALS + l, repealed);
            tokens.advance();
            return true;
        }

        boolean readMan() {
            int m = takeNewName(Land.MEN);
            if (m == NONE) {
                return false;
            }
            int p = tokens.takeName(land, Land.PLACES);
            if (p == NONE) {
                return false;
            }
            int sight = tokens.takeNumber(0, MOST_SIGHT);
            if (sight == NONE) {
                return false;
            }
            put(land.facts, Land.BEGINS_IN + m, p);
            put(land.facts, Land.SIGHT_OF + m, sight);
            put(land.facts, Land.READS_FOR + m, NONE);
            return true;
        }

        boolean readRound() {
            int m = tokens.nameHere(land, Land.MEN);
            if (m == NONE) {
                return false;
            }
            if (at(land.facts, Land.STOPS + m) > 0) {
                return tokens.refuse(BAD_NAME);
            }
            tokens.advance();
            if (!takeStop(m)) {
                return false;
            }
            for (int i = 0; i <= MOST_STOPS && !tokens.isSign(';'); i++) {
                if (!takeStop(m)) {
                    return false;
                }
            }
            return true;
        }

        boolean takeStop(int m) {
            int p = tokens.nameHere(land, Land.PLACES);
            if (p == NONE) {
                return false;
            }
            int stops = at(land.facts, Land.STOPS + m);
            if (stops >= MOST_STOPS) {
                return tokens.refuse(TOO_MANY);
            }
            put(land.facts, Land.ROUND_OF + m * MOST_STOPS + stops, p);
            put(land.facts, Land.STOPS + m, stops + 1);
            tokens.advance();
            return true;
        }

        boolean readClerk() {
            int clerk = tokens.nameHere(land, Land.MEN);
            if (clerk == NONE) {
                return false;
            }
            if (at(land.facts, Land.READS_FOR + clerk) != NONE) {
                return tokens.refuse(BAD_NAME);
            }
            tokens.advance();
            int other = tokens.nameHere(land, Land.MEN);
            if (other == NONE) {
                return false;
            }
            if (other == clerk) {
                return tokens.refuse(BAD_NAME);
            }
            put(land.facts, Land.READS_FOR + clerk, other);
            tokens.advance();
            return true;
        }

        boolean readPost() {
            int l = tokens.takeName(land, Land.LAWS);
            if (l == NONE) {
                return false;
            }
            int p = tokens.nameHere(land, Land.PLACES);
            if (p == NONE) {
                return false;
            }
            if ((at(land.facts, Land.POSTED_IN + p) >> l & 1) == 1) {
                return tokens.refuse(BAD_NAME);
            }
            land.addBits(Land.POSTED_IN + p, 1 << l);
            tokens.advance();
            return true;
        }
    }

    /** All that acts and DAYS change; one row of numbers, so that undoing and trying are copies. */
    private static final class Life {
        static final int TODAY = 0;
        static final int RAINS_SO_FAR = 1;
        static final int PLACE_OF = 2;
        static final int BLINKERS = PLACE_OF + MOST_MEN;
        static final int WENT = BLINKERS + MOST_MEN;
        static final int DEEDS_OF = WENT + MOST_MEN;
        static final int LOOKS_TO = DEEDS_OF + MOST_MEN;
        static final int WORDS_OF = LOOKS_TO + MOST_MEN;
        static final int READ_ON = WORDS_OF + MOST_MEN * MOST_LAWS;
        static final int BOARD = READ_ON + MOST_MEN * MOST_LAWS;
        static final int CELLS = BOARD + MOST_PLACES;

        final int[] facts;
        final int[] cells;
        int seed;

        Life(int[] facts) {
            this.facts = facts;
            cells = new int[CELLS];
        }

        void copyFrom(Life other) {
            copy(other.cells, cells);
        }

        void begin() {
            for (int i = 0; i < cells.length; i++) {
                cells[i] = 0;
            }
            for (int p = 0; p < at(facts, Land.PLACES); p++) {
                put(cells, BOARD + p, at(facts, Land.POSTED_IN + p));
            }
            for (int m = 0; m < at(facts, Land.MEN); m++) {
                put(cells, PLACE_OF + m, at(facts, Land.BEGINS_IN + m));
            }
            for (int m = 0; m < at(facts, Land.MEN); m++) {
                readBoard(m);
            }
        }

        int today() {
            return at(cells, TODAY);
        }

        int wordsOf(int m, int l) {
            return at(cells, WORDS_OF + m * MOST_LAWS + l);
        }

        int readOn(int m, int l) {
            return at(cells, READ_ON + m * MOST_LAWS + l);
        }

        // ---- reading

        void readBoard(int m) {
            if (at(cells, BLINKERS + m) == 1) {
                return;
            }
            int board = at(cells, BOARD + at(cells, PLACE_OF + m));
            for (int l = 0; l < MOST_LAWS && board >> l != 0; l++) {
                if ((board >> l & 1) == 1) {
                    readLaw(m, l);
                }
            }
        }

        void readLaw(int m, int l) {
            int mine = m * MOST_LAWS + l;
            int words = at(cells, WORDS_OF + mine) + at(facts, Land.SIGHT_OF + m);
            words = Math.min(words, at(facts, Land.LENGTH + l));
            put(cells, WORDS_OF + mine, words);
            put(cells, READ_ON + mine, at(cells, TODAY));
            int other = at(facts, Land.READS_FOR + m);
            if (other != NONE) {
                int his = other * MOST_LAWS + l;
                put(cells, WORDS_OF + his, Math.max(words, at(cells, WORDS_OF + his)));
                put(cells, READ_ON + his, at(cells, TODAY));
            }
        }

        // ---- acts: why one can't be done, and its doing

        int whyNot(int what, int a, int b) {
            switch (what) {
                case GOES:
                    return whyNotGo(a, b);
                case DOES:
                    return barredFor(a) >> b & 1;
                case WEARS:
                    return at(cells, BLINKERS + a);
                case BARES:
                    return 1 - at(cells, BLINKERS + a);
                case FEVERS:
                    return wordsInAll(a) == 0 ? 1 : 0;
                case POSTS:
                    return at(cells, BOARD + b) >> a & 1;
                case RAINS:
                    return at(cells, BOARD + a) == 0 ? 1 : 0;
                default:
                    return LAST_DAY - today() < a ? 1 : 0;
            }
        }

        int whyNotGo(int m, int p) {
            if (at(cells, WENT + m) == 1) {
                return 1;
            }
            return hasRoadTo(m, p) ? 0 : 2;
        }

        boolean hasRoadTo(int m, int p) {
            return (at(facts, Land.ROADS_OF + at(cells, PLACE_OF + m)) >> p & 1) == 1;
        }

        /** Any act but the passing of DAYS. */
        void live(int what, int a, int b) {
            switch (what) {
                case GOES:
                    put(cells, WENT + a, 1);
                    put(cells, PLACE_OF + a, b);
                    readBoard(a);
                    break;
                case DOES:
                    put(cells, DEEDS_OF + a, at(cells, DEEDS_OF + a) + 1);
                    break;
                case WEARS:
                    put(cells, BLINKERS + a, 1);
                    break;
                case BARES:
                    put(cells, BLINKERS + a, 0);
                    readBoard(a);
                    break;
                case FEVERS:
                    loseWords(a);
                    break;
                case POSTS:
                    putUp(a, b);
                    break;
                default:
                    put(cells, BOARD + a, 0);
                    put(cells, RAINS_SO_FAR, at(cells, RAINS_SO_FAR) + 1);
                    break;
            }
        }

        void loseWords(int m) {
            for (int l = 0; l < at(facts, Land.LAWS); l++) {
                put(cells, WORDS_OF + m * MOST_LAWS + l, 0);
            }
        }

        void putUp(int l, int p) {
            put(cells, BOARD + p, at(cells, BOARD + p) | 1 << l);
            for (int m = 0; m < at(facts, Land.MEN); m++) {
                if (at(cells, PLACE_OF + m) == p && at(cells, BLINKERS + m) == 0) {
                    readLaw(m, l);
                }
            }
        }

        // ---- DAYS

        void passDays(int n) {
            int men = at(facts, Land.MEN);
            for (int i = 0; i < n && today() < LAST_DAY; i++) {
                forgetOld();
                put(cells, TODAY, today() + 1);
                for (int m = 0; m < men; m++) {
                    put(cells, WENT + m, 0);
                }
                for (int m = 0; m < men; m++) {
                    goRound(m);
                }
            }
        }

        void forgetOld() {
            int last = today() - KEPT_DAYS;
            if (last < 0) {
                return;
            }
            int laws = at(facts, Land.LAWS);
            int men = at(facts, Land.MEN);
            for (int m = 0; m < men; m++) {
                for (int l = 0; l < laws; l++) {
                    if (at(cells, READ_ON + m * MOST_LAWS + l) <= last) {
                        put(cells, WORDS_OF + m * MOST_LAWS + l, 0);
                    }
                }
            }
        }

        void goRound(int m) {
            int stops = at(facts, Land.STOPS + m);
            if (stops == 0) {
                return;
            }
            int look = at(cells, LOOKS_TO + m);
            int p = at(facts, Land.ROUND_OF + m * MOST_STOPS + look);
            put(cells, LOOKS_TO + m, look + 1 < stops ? look + 1 : 0);
            if (hasRoadTo(m, p) || at(cells, PLACE_OF + m) == p) {
                put(cells, PLACE_OF + m, p);
                readBoard(m);
            }
        }

        void drawDays(int n, int x) {
            seed = x;
            for (int i = 0; i < n && today() < LAST_DAY; i++) {
                if (draw(4) == 0) {
                    int p = draw(at(facts, Land.PLACES));
                    if (whyNot(RAINS, p, 0) == 0) {
                        live(RAINS, p, 0);
                    }
                }
                for (int m = 0; m < at(facts, Land.MEN); m++) {
                    drawMan(m);
                }
                passDays(1);
            }
        }

        void drawMan(int m) {
            if (draw(20) == 0) {
                if (whyNot(FEVERS, m, 0) == 0) {
                    live(FEVERS, m, 0);
                }
            } else if (draw(3) == 0) {
                int p = draw(at(facts, Land.PLACES));
                if (whyNot(GOES, m, p) == 0) {
                    live(GOES, m, p);
                }
            }
        }

        int draw(int n) {
            seed = seed * 1103515245 + 12345;
            return n > 0 ? (seed >>> 8) % n : 0;
        }

        // ---- who is bound by what

        int stateOf(int m, int l) {
            int words = at(cells, WORDS_OF + m * MOST_LAWS + l);
            int length = at(facts, Land.LENGTH + l);
            if (words >= length) {
                return 2;
            }
            return 2 * words >= length ? 1 : 0;
        }

        /** LAWS and repeals of which he has all words, as bits. */
        int wholeFor(int m) {
            int whole = 0;
            int laws = at(facts, Land.LAWS);
            for (int l = 0; l < laws; l++) {
                if (at(cells, WORDS_OF + m * MOST_LAWS + l) >= at(facts, Land.LENGTH + l)) {
                    whole |= 1 << l;
                }
            }
            return whole;
        }

        /** LAWS that do not bind him who has all of these. */
        int repealedBy(int whole) {
            int repealed = 0;
            for (int l = 0; l < MOST_LAWS && whole >> l != 0; l++) {
                int other = (whole >> l & 1) == 1 ? at(facts, Land.REPEALS + l) : NONE;
                if (other != NONE) {
                    repealed |= 1 << other;
                }
            }
            return repealed;
        }

        int liftedFor(int m) {
            int whole = wholeFor(m);
            return whole & repealedBy(whole);
        }

        int bindingOn(int m) {
            int repealed = repealedBy(wholeFor(m));
            int least = today() % 2 == 0 ? 1 : 2;
            int binding = 0;
            int laws = at(facts, Land.LAWS);
            for (int l = 0; l < laws; l++) {
                if (at(facts, Land.REPEALS + l) == NONE && (repealed >> l & 1) == 0
                        && stateOf(m, l) >= least) {
                    binding |= 1 << l;
                }
            }
            return binding;
        }

        int barredFor(int m) {
            int binding = bindingOn(m);
            int deeds = 0;
            for (int l = 0; l < MOST_LAWS && binding >> l != 0; l++) {
                if ((binding >> l & 1) == 1) {
                    deeds |= at(facts, Land.FORBIDS + l);
                }
            }
            return deeds;
        }

        int menBoundBy(int l) {
            int men = 0;
            for (int m = 0; m < at(facts, Land.MEN); m++) {
                men |= (bindingOn(m) >> l & 1) << m;
            }
            return men;
        }

        int freeMen() {
            int men = 0;
            for (int m = 0; m < at(facts, Land.MEN); m++) {
                if (bindingOn(m) == 0) {
                    men |= 1 << m;
                }
            }
            return men;
        }

        // ---- sums and sets

        int wordsInAll(int m) {
            int words = 0;
            for (int l = 0; l < at(facts, Land.LAWS); l++) {
                words += wordsOf(m, l);
            }
            return words;
        }

        int postsInAll() {
            int posts = 0;
            for (int p = 0; p < at(facts, Land.PLACES); p++) {
                posts += Integer.bitCount(at(cells, BOARD + p));
            }
            return posts;
        }

        int deedsInAll() {
            int deeds = 0;
            for (int m = 0; m < at(facts, Land.MEN); m++) {
                deeds += at(cells, DEEDS_OF + m);
            }
            return deeds;
        }

        int menWithBlinkers() {
            int men = 0;
            for (int m = 0; m < at(facts, Land.MEN); m++) {
                men |= at(cells, BLINKERS + m) << m;
            }
            return men;
        }

        int menIn(int p) {
            int men = 0;
            for (int m = 0; m < at(facts, Land.MEN); m++) {
                if (at(cells, PLACE_OF + m) == p) {
                    men |= 1 << m;
                }
            }
            return men;
        }

        int placesOf(int l) {
            return placesOfAny(1 << l);
        }

        int placesOfAny(int set) {
            int places = 0;
            for (int p = 0; p < at(facts, Land.PLACES); p++) {
                if ((at(cells, BOARD + p) & set) != 0) {
                    places |= 1 << p;
                }
            }
            return places;
        }
    }

    /** The states ahead of the latest acts, in a ring: a ninth takes the room of the oldest. */
    private static final class Past {
        static final int MOST = 8;

        final int[] kept;
        int next;
        int count;

        Past() {
            kept = new int[MOST * Life.CELLS];
        }

        void forget() {
            count = 0;
        }

        void keep(int[] cells) {
            System.arraycopy(cells, 0, kept, (next & 7) * Life.CELLS, Math.min(cells.length, Life.CELLS));
            next = next + 1 & 7;
            count = Math.min(count + 1, MOST);
        }

        /** How many are left, or NONE if there was none. */
        int takeBack(int[] cells) {
            if (count == 0) {
                return NONE;
            }
            next = next + 7 & 7;
            count--;
            System.arraycopy(kept, (next & 7) * Life.CELLS, cells, 0, Math.min(cells.length, Life.CELLS));
            return count;
        }
    }

    /** LAND, what is so and SENTENCE as they were once. */
    private static final class Image {
        final Land land;
        final Life life;
        final Sentence sentence;
        boolean kept;

        Image() {
            land = new Land();
            life = new Life(land.facts);
            sentence = new Sentence();
        }

        void take(Land fromLand, Life fromLife, Sentence fromSentence) {
            land.copyFrom(fromLand);
            life.copyFrom(fromLife);
            sentence.copyFrom(fromSentence);
            kept = true;
        }

        void giveBack(Land toLand, Life toLife, Sentence toSentence) {
            toLand.copyFrom(land);
            toLife.copyFrom(life);
            toSentence.copyFrom(sentence);
        }
    }

    /** The latest WAY that was found. */
    private static final class Route {
        final int[] facts;
        final int[] steps;
        final int[] layers;
        int length;

        Route(int[] facts) {
            this.facts = facts;
            steps = new int[MOST_PLACES];
            layers = new int[MOST_PLACES];
        }

        /** How many steps; NONE, and the latest one stays, if there is no WAY past the closed PLACES. */
        int find(int from, int to, int closed) {
            if (from == to) {
                length = 0;
                return 0;
            }
            if ((closed >> to & 1) == 1) {
                return NONE;
            }
            // from the far end, so that the walk from this end can take the least PLACE each time
            int layer = 1 << to;
            int seen = layer;
            for (int far = 1; far < MOST_PLACES; far++) {
                put(layers, far - 1, layer);
                int near = neighboursOf(layer);
                if ((near >> from & 1) == 1) {
                    walk(from, far);
                    return length;
                }
                layer = near & ~closed & ~seen;
                seen |= layer;
            }
            return NONE;
        }

        int neighboursOf(int set) {
            int near = 0;
            for (int p = 0; p < at(facts, Land.PLACES); p++) {
                if ((set >> p & 1) == 1) {
                    near |= at(facts, Land.ROADS_OF + p);
                }
            }
            return near;
        }

        void walk(int from, int far) {
            length = far;
            int p = from;
            for (int i = 0; i < far; i++) {
                int open = at(facts, Land.ROADS_OF + p) & at(layers, far - 1 - i);
                p = leastOf(open);
                put(steps, i, p);
            }
        }

        static int leastOf(int set) {
            for (int p = 0; p < MOST_PLACES; p++) {
                if ((set >> p & 1) == 1) {
                    return p;
                }
            }
            return 0;
        }
    }

    /** A DIARY's LINES as acts of a Life. */
    private static final class Diary {
        final Tokens tokens;
        final Land land;
        final int[] whats;
        final int[] firsts;
        final int[] seconds;
        int lines;

        Diary(Tokens tokens, Land land) {
            this.tokens = tokens;
            this.land = land;
            whats = new int[MOST_LINES];
            firsts = new int[MOST_LINES];
            seconds = new int[MOST_LINES];
        }

        /** False behind a FAULT. */
        boolean readLines() {
            lines = 0;
            tokens.begin(DIARY_BYTES);
            for (int i = 0; i <= MOST_LINES; i++) {
                if (tokens.kind == Tokens.END) {
                    return true;
                }
                if (!readLine() || !tokens.takeSign(';')) {
                    return false;
                }
            }
            return false;
        }

        boolean readLine() {
            if (tokens.isNameHere()) {
                return readManLine();
            }
            int what = tokens.keyword;
            if (what != POSTS && what != RAINS && what != DAY) {
                return tokens.refuse(NO_TOKEN);
            }
            if (!takeFirst()) {
                return false;
            }
            if (what == DAY) {
                return add(what, tokens.takeNumber(1, MOST_DAYS), 0);
            }
            if (what == RAINS) {
                return add(what, tokens.takeName(land, Land.PLACES), 0);
            }
            int l = tokens.takeName(land, Land.LAWS);
            return l != NONE && add(what, l, tokens.takeName(land, Land.PLACES));
        }

        boolean readManLine() {
            int m = tokens.nameHere(land, Land.MEN);
            if (m == NONE || !takeFirst()) {
                return false;
            }
            int what = tokens.keyword;
            switch (what) {
                case GOES:
                    tokens.advance();
                    return add(what, m, tokens.takeName(land, Land.PLACES));
                case DOES:
                    tokens.advance();
                    return add(what, m, tokens.takeName(land, Land.DEEDS));
                case WEARS:
                case BARES:
                case FEVERS:
                    tokens.advance();
                    return add(what, m, 0);
                default:
                    return tokens.refuse(NO_TOKEN);
            }
        }

        boolean takeFirst() {
            if (lines >= MOST_LINES) {
                return tokens.refuse(TOO_MANY);
            }
            tokens.advance();
            return true;
        }

        /** False, if one of the two is NONE: a FAULT was told then. */
        boolean add(int what, int first, int second) {
            if (first == NONE || second == NONE) {
                return false;
            }
            put(whats, lines, what);
            put(firsts, lines, first);
            put(seconds, lines, second);
            lines++;
            return true;
        }
    }

    /** A SENTENCE with each 'not', 'and', 'or' behind what it joins; without any, there is none. */
    private static final class Sentence {
        static final int MOST_PARTS = 2 * MOST_ONES;

        final int[] parts;
        final int[] signs;
        final int[] numbers;
        final int[] stack;
        int size;

        Sentence() {
            parts = new int[MOST_PARTS];
            signs = new int[MOST_PARTS];
            numbers = new int[MOST_PARTS];
            stack = new int[MOST_PARTS];
        }

        void clear() {
            size = 0;
        }

        void copyFrom(Sentence other) {
            copy(other.parts, parts);
            copy(other.signs, signs);
            copy(other.numbers, numbers);
            size = other.size;
        }

        void add(int part, int sign, int number) {
            put(parts, size, part);
            put(signs, size, sign);
            put(numbers, size, number);
            size++;
        }

        /** MEN of whom it may be said, as bits: each part is a set of MEN. */
        int menOf(Life life) {
            int all = (1 << at(life.facts, Land.MEN)) - 1;
            int top = 0;
            for (int i = 0; i < size; i++) {
                int part = at(parts, i);
                if (part == NOT) {
                    put(stack, top - 1, all & ~at(stack, top - 1));
                } else if (part == AND) {
                    top--;
                    put(stack, top - 1, at(stack, top - 1) & at(stack, top));
                } else if (part == OR) {
                    top--;
                    put(stack, top - 1, at(stack, top - 1) | at(stack, top));
                } else {
                    put(stack, top, menOfOne(life, i));
                    top++;
                }
            }
            return at(stack, 0);
        }

        int menOfOne(Life life, int i) {
            int men = 0;
            for (int m = 0; m < at(life.facts, Land.MEN); m++) {
                if (holds(life, i, m)) {
                    men |= 1 << m;
                }
            }
            return men;
        }

        boolean holds(Life life, int i, int m) {
            int number = at(numbers, i);
            switch (at(parts, i)) {
                case BLIND:
                    return at(life.cells, Life.BLINKERS + m) == 1 || at(life.facts, Land.SIGHT_OF + m) == 0;
                case FREE:
                    return life.bindingOn(m) == 0;
                case BOUND:
                    return (life.bindingOn(m) >> number & 1) == 1;
                case MAY:
                    return (life.barredFor(m) >> number & 1) == 0;
                case IN:
                    return at(life.cells, Life.PLACE_OF + m) == number;
                case SIGHT:
                    return compares(at(life.facts, Land.SIGHT_OF + m), i);
                case WORDS:
                    return compares(life.wordsInAll(m), i);
                case DID:
                    return compares(at(life.cells, Life.DEEDS_OF + m), i);
                default:
                    return compares(m, i);
            }
        }

        boolean compares(int value, int i) {
            int number = at(numbers, i);
            switch (at(signs, i)) {
                case '<':
                    return value < number;
                case '=':
                    return value == number;
                default:
                    return value > number;
            }
        }
    }

    /** Reads a SENTENCE's text into a spare one, as a FAULT must leave the SENTENCE that is. */
    private static final class SentenceReader {
        final Tokens tokens;
        final Land land;
        final Sentence sentence;
        int ones;

        SentenceReader(Tokens tokens, Land land, Sentence sentence) {
            this.tokens = tokens;
            this.land = land;
            this.sentence = sentence;
        }

        /** How many ONES, or NONE behind a FAULT. */
        int readText() {
            ones = 0;
            sentence.clear();
            tokens.begin(SENTENCE_BYTES);
            if (!readCond(1)) {
                return NONE;
            }
            if (tokens.kind != Tokens.END) {
                tokens.refuse(NO_TOKEN);
                return NONE;
            }
            return ones;
        }

        /** 'and' joins ahead of 'or': an 'or' is put behind the whole ALL that follows it. */
        boolean readCond(int depth) {
            for (int i = 0; i <= MOST_ONES; i++) {
                if (!readOne(depth)) {
                    return false;
                }
                for (int j = 0; j < MOST_ONES && tokens.keyword == AND; j++) {
                    tokens.advance();
                    if (!readOne(depth)) {
                        return false;
                    }
                    sentence.add(AND, 0, 0);
                }
                if (i > 0) {
                    sentence.add(OR, 0, 0);
                }
                if (tokens.keyword != OR) {
                    return true;
                }
                tokens.advance();
            }
            return false;
        }

        boolean readOne(int depth) {
            boolean bracket = tokens.isSign('(');
            int part = tokens.keyword;
            if (!bracket && part < NOT) {
                return tokens.refuse(NO_TOKEN);
            }
            if (ones >= MOST_ONES || depth > MOST_WITHIN) {
                return tokens.refuse(TOO_MANY);
            }
            ones++;
            tokens.advance();
            if (bracket) {
                return readCond(depth + 1) && tokens.takeSign(')');
            }
            switch (part) {
                case NOT:
                    return readNot(depth);
                case BLIND:
                case FREE:
                    sentence.add(part, 0, 0);
                    return true;
                case BOUND:
                    return readNamed(part, Land.LAWS);
                case MAY:
                    return readNamed(part, Land.DEEDS);
                case IN:
                    return readNamed(part, Land.PLACES);
                default:
                    return readCompared(part);
            }
        }

        boolean readNot(int depth) {
            if (!readOne(depth + 1)) {
                return false;
            }
            sentence.add(NOT, 0, 0);
            return true;
        }

        boolean readNamed(int part, int sort) {
            int number = tokens.nameHere(land, sort);
            if (number == NONE) {
                return false;
            }
            sentence.add(part, 0, number);
            tokens.advance();
            return true;
        }

        boolean readCompared(int part) {
            int sign = tokens.value;
            if (!tokens.isSign('<') && !tokens.isSign('=') && !tokens.isSign('>')) {
                return tokens.refuse(NO_TOKEN);
            }
            tokens.advance();
            if (tokens.kind != Tokens.DIGITS) {
                return tokens.refuse(NO_TOKEN);
            }
            sentence.add(part, sign, tokens.value);
            tokens.advance();
            return true;
        }
    }
}
