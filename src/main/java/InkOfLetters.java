/**
 * A bureau of up to seven writers, each of whom boils ink from the last letter got, so that a
 * little of its tone is in what is written next. What each call answers is told, promise by
 * promise, in ../shared/DOC.md; the names here are those of that document.
 */
public final class InkOfLetters {
    public static final int NONE = -1, BAD = -2, STATE = -3, FULL = -4;
    public static final long NO = -4611686018427387904L;

    /** The host's refusals. */
    private static final int MISSING = -11, OUTSIDE = -12, UNLIKE = -13, BELOW_0 = -14;
    /** Refusals of calls whose answers may be below 0 themselves. */
    private static final int NO_SUCH = -5000, CANT = -6000, NO_ASK = -7000, NOTHING = -1000;
    /** By how much the host's refusals and BAD are less where answers may be below 0. */
    private static final int FARTHER = 1000;

    private static final int MOST_WRITERS = 7, MOST_TEXTS = 6, MOST_SHEETS = 4, MOST_CELLS = 40;
    private static final int MOST_BYTES = 160, MOST_OPEN = 5, MOST_DIGITS = 4;
    private static final int MOST_TONE = 99, MOST_INK = 99, MOST_MORE = 9, LAST_DAY = 999;
    private static final int MOST_LETTERS = 4, SPOONFUL = 5;
    private static final int LAST_SEED = 99999, MOST_LOTS = 60, MOST_SEEDS = 40, LOTS_OF_ODDS = 20;
    private static final int LEAST_OF_ODDS = 999;

    private static final int BYTES = 0, SHORTS = 1, INTS = 2;
    private static final int A_TONE = 6;

    /** Parts of a text, in their order. */
    private static final int BOIL = 0, YIELD = 1, COST = 2, PARTS = 3;

    /** Tokens that are no signs (a sign is its own byte); the words stand as in WORDS. */
    private static final int END = 0, WRONG = 1, NUMBER = 2, NEGATE = 3;
    private static final int BOILS = 100, OR = 103, AND = 104, NOT = 105;
    private static final int TONE = 106, INK = 107, MIXED = 108, DAY = 109, WHO = 110, MORE = 111;
    /** Number n stands in a text's code as this and n: behind all tokens, so that one int is enough. */
    private static final int NUMBERS = 1000;
    private static final String WORDS =
            "boils yields costs or and not tone ink mixed day who more ";
    private static final String SIGNS = "();+-*<=";

    private static final Kind[] KINDS = Kind.values();
    /** Of each KIND the one above, of which it is one, too. */
    private static final int[] ABOVE = {-1, 0, 0, 1, 2, 0};

    private final Tape tape;
    private final Text[] texts;
    private int textCount = 1;
    private final Sheet[] sheets;
    private final Bureau real;
    private final Bureau thought;
    private final Bureau kept;
    private boolean hasImage = false;
    /** How all is behind no, one, two, .. letters of a chain. */
    private final Bureau[] onTheWay;
    private int bestWay = NONE;
    private int bestTone = NOTHING;
    private long lot = 0;

    /** All rows are made here and used again, so that no later call makes an object. */
    public InkOfLetters() {
        Text[] laws = new Text[MOST_TEXTS];
        for (int i = 0; i < MOST_TEXTS; i++) {
            laws[i] = new Text();
        }
        laws[0].say(50, 20, 10);
        Bureau[] ahead = new Bureau[MOST_LETTERS + 1];
        for (int i = 0; i <= MOST_LETTERS; i++) {
            ahead[i] = new Bureau(laws);
        }
        Sheet[] missing = new Sheet[MOST_SHEETS];
        for (int i = 0; i < MOST_SHEETS; i++) {
            missing[i] = new Sheet();
        }
        tape = new Tape();
        texts = laws;
        sheets = missing;
        real = new Bureau(laws);
        thought = new Bureau(laws);
        kept = new Bureau(laws);
        onTheWay = ahead;
    }

    // ---- writers, the law

    public int count(int what) {
        switch (what) {
            case 0: return real.writers;
            case 1: return real.day;
            case 2: return real.inkOfAll();
            case 3: return textCount;
            case 4: return real.law;
            case 5: return tape.size;
            default: return BAD;
        }
    }

    public int dawn(int v) {
        if (!isWithin(v, 0, LAST_DAY)) {
            return BAD;
        }
        int was = real.day;
        real.day = v;
        return was;
    }

    public int feed(int n, int a, int b, int c, int d, int e) {
        boolean bytes = isByte(a) && isByte(b) && isByte(c) && isByte(d) && isByte(e);
        if (!isWithin(n, 1, 5) || !bytes) {
            return BAD;
        }
        if (n > MOST_BYTES - tape.size) {
            return FULL;
        }
        for (int i = 0; i < n; i++) {
            tape.add(i == 0 ? a : i == 1 ? b : i == 2 ? c : i == 3 ? d : e);
        }
        return tape.size;
    }

    public int text() {
        if (textCount >= MOST_TEXTS) {
            return FULL;
        }
        int fault = tape.readInto(texts[textCount]);
        tape.size = 0;
        if (fault >= 0) {
            return -100 - fault;
        }
        textCount++;
        return textCount - 1;
    }

    public int force(int t) {
        if (!isWithin(t, 0, textCount - 1)) {
            return BAD;
        }
        int was = real.law;
        real.law = t;
        return was;
    }

    public int asks(int part, int p) {
        if (!isWithin(part, BOIL, COST) || !real.has(p)) {
            return NOTHING;
        }
        return real.says(part, p);
    }

    public int writer(int kindMore, int tones, int much) {
        return settle(kindMore, tones, much);
    }

    public int put(int p, int what, int v) {
        if (!real.has(p)) {
            return NO_SUCH;
        }
        if (what == 0 && isTone(v)) {
            int was = real.tone[p];
            real.tone[p] = v;
            return was;
        }
        if (what == 1 && isInk(v)) {
            int was = real.ink[p];
            real.ink[p] = v;
            return was;
        }
        return NO_ASK;
    }

    public int told(int p, int what) {
        if (!real.has(p)) {
            return NO_SUCH;
        }
        switch (what) {
            case 0: return real.tone[p];
            case 1: return real.ink[p];
            case 2: return real.kind[p];
            case 3: return real.more[p];
            case 4: return real.mixed[p];
            case 5: return real.writtenTone(p);
            case 6: return real.yieldOf(p);
            case 7: return real.costOf(p);
            case 8: return real.inWhoseInk(p);
            default: return NO_ASK;
        }
    }

    // ---- letters

    public int write(int a, int b) {
        if (!real.areTwo(a, b)) {
            return NO_SUCH;
        }
        return real.letter(a, b) ? real.tone[b] : CANT;
    }

    public int borrow(int a, int b) {
        if (!real.areTwo(a, b)) {
            return NO_SUCH;
        }
        int much = Math.min(SPOONFUL, Math.min(real.ink[b], MOST_INK - real.ink[a]));
        real.pour(a, much, real.tone[b]);
        real.ink[b] -= much;
        if (much > 0) {
            real.mixed[a] |= real.mixed[b];
        }
        return real.ink[a];
    }

    public int water(int p, int much) {
        if (!real.has(p)) {
            return NO_SUCH;
        }
        if (!isWithin(much, 0, MOST_INK - real.ink[p])) {
            return NO_ASK;
        }
        real.pour(p, much, 0);
        return real.tone[p];
    }

    // ---- posts

    public int post(int s, int what) {
        int refusal = refusalOfPost(s);
        if (refusal != 0) {
            return refusal - FARTHER;
        }
        if (!isWithin(what, 0, 3) && !real.has(what - 10) && !real.has(what - 20)) {
            return NO_ASK;
        }
        thought.become(real);
        if (what == 1) {
            return thought.firstLeftOut(sheets[s]);
        }
        int written = thought.lettersOf(sheets[s]);
        if (what == 0) {
            return written;
        }
        if (what == 2) {
            return thought.toneOfAll();
        }
        if (what == 3) {
            return thought.inkOfAll();
        }
        return what < 20 ? thought.tone[what - 10] : thought.mixed[what - 20];
    }

    public int deliver(int s) {
        int refusal = refusalOfPost(s);
        if (refusal != 0) {
            return refusal;
        }
        if (real.day >= LAST_DAY) {
            return STATE;
        }
        int written = real.lettersOf(sheets[s]);
        real.day++;
        return written;
    }

    // ---- what is best

    public int whom(int a, int what) {
        if (!real.has(a)) {
            return NO_SUCH;
        }
        if (!isWithin(what, 0, 1)) {
            return NO_ASK;
        }
        int best = NONE;
        int most = real.toneOfAll();
        for (int b = 0; b < real.writers; b++) {
            thought.become(real);
            if (b != a && thought.letter(a, b) && (best < 0 || thought.toneOfAll() > most)) {
                best = b;
                most = thought.toneOfAll();
            }
        }
        return what == 0 ? best : most;
    }

    public int chain(int a, int b, int letters, int what) {
        if (!real.areTwo(a, b)) {
            return NO_SUCH;
        }
        if (!isWithin(letters, 1, MOST_LETTERS) || !isWithin(what, 0, 1)) {
            return NO_ASK;
        }
        bestWay = NONE;
        bestTone = NOTHING;
        onTheWay[0].become(real);
        seekWays(a, b, letters, 0, a + 1, 1 << a);
        return what == 0 ? bestWay : bestTone;
    }

    public int who(int what) {
        if (!isWithin(what, 0, 2)) {
            return BAD;
        }
        int best = NONE;
        for (int p = 0; p < real.writers; p++) {
            if (best < 0 || rank(p, what) > rank(best, what)) {
                best = p;
            }
        }
        return best;
    }

    public long mean(int part) {
        int below = real.inkOfAll();
        if (!isWithin(part, 0, 1) || below == 0) {
            return NO;
        }
        int above = 0;
        for (int p = 0; p < real.writers; p++) {
            above += real.tone[p] * real.ink[p];
        }
        return inLowestTerms(above, below, part);
    }

    // ---- told posts

    public int judge(int s, int told, int p) {
        int refusal = refusalOfTold(s, told, p);
        if (refusal != 0) {
            return refusal;
        }
        thought.become(real);
        return thought.firstOtherwise(sheets[s], sheets[told], p);
    }

    public int kinds(int s, int told, int p, int sort) {
        int refusal = refusalOfTold(s, told, p);
        if (refusal != 0) {
            return refusal;
        }
        if (!isWithin(sort, 0, 1)) {
            return -7;
        }
        int last = sort == 0 ? KINDS.length - 1 : MOST_MORE;
        int fitting = 0;
        for (int v = 0; v <= last; v++) {
            thought.become(real);
            if (sort == 0) {
                thought.kind[p] = v;
            } else {
                thought.more[p] = v;
            }
            if (thought.firstOtherwise(sheets[s], sheets[told], p) < 0) {
                fitting |= 1 << v;
            }
        }
        return fitting;
    }

    public int inks(int s, int told, int p, int sort, int what) {
        int refusal = refusalOfTold(s, told, p);
        if (refusal != 0) {
            return refusal - FARTHER;
        }
        if (!isWithin(sort, 0, 1) || !isWithin(what, 0, 1)) {
            return NO_ASK;
        }
        int least = NOTHING;
        int fitting = 0;
        for (int v = sort == 0 ? -MOST_TONE : 0; v <= (sort == 0 ? MOST_TONE : MOST_INK); v++) {
            thought.become(real);
            if (sort == 0) {
                thought.tone[p] = v;
            } else {
                thought.ink[p] = v;
            }
            if (thought.firstOtherwise(sheets[s], sheets[told], p) < 0) {
                least = fitting == 0 ? v : least;
                fitting++;
            }
        }
        return what == 0 ? fitting : least;
    }

    public int whose(int s, int told) {
        int refusal = refusalOfSheets(s, told);
        if (refusal != 0) {
            return refusal;
        }
        int fitting = 0;
        for (int p = 0; p < real.writers; p++) {
            thought.become(real);
            if (thought.firstOtherwise(sheets[s], sheets[told], p) < 0) {
                fitting |= 1 << p;
            }
        }
        return fitting;
    }

    public int laws(int s, int told, int p) {
        int refusal = refusalOfTold(s, told, p);
        if (refusal != 0) {
            return refusal;
        }
        int fitting = 0;
        for (int t = 0; t < textCount; t++) {
            thought.become(real);
            thought.law = t;
            if (thought.firstOtherwise(sheets[s], sheets[told], p) < 0) {
                fitting |= 1 << t;
            }
        }
        return fitting;
    }

    public int film(int s, int told, int p) {
        if (!isSheet(told) || s == told) {
            return BAD;
        }
        int refusal = refusalOfPost(s);
        if (refusal != 0) {
            return refusal;
        }
        if (!real.has(p)) {
            return -5;
        }
        Sheet letters = sheets[s];
        Sheet tones = sheets[told];
        tones.lay(BYTES, letters.size);
        thought.become(real);
        for (int i = 0; i < letters.size; i++) {
            thought.letter(letters.row[i] / 10, letters.row[i] % 10);
            tones.set(i, thought.tone[p]);
        }
        return letters.size;
    }

    // ---- posts by lots

    public int drawn(int seed, int n, int what) {
        boolean known = isWithin(seed, 0, LAST_SEED) && isWithin(n, 0, MOST_LOTS);
        if (!known || !isWithin(what, 0, 1)) {
            return NOTHING;
        }
        int written = thinkByLots(seed, n);
        return what == 0 ? thought.toneOfAll() : written;
    }

    public long odds(int seed, int seeds, int least, int part) {
        boolean known = isWithin(seed, 0, LAST_SEED) && isWithin(seeds, 1, MOST_SEEDS);
        if (!known || !isWithin(least, -LEAST_OF_ODDS, LEAST_OF_ODDS) || !isWithin(part, 0, 1)) {
            return NO;
        }
        int hits = 0;
        for (int i = 0; i < seeds; i++) {
            thinkByLots(seed + i, LOTS_OF_ODDS);
            if (thought.toneOfAll() >= least) {
                hits++;
            }
        }
        return inLowestTerms(hits, seeds, part);
    }

    public int image() {
        kept.become(real);
        hasImage = true;
        return kept.writers;
    }

    public int back() {
        if (!hasImage) {
            return STATE;
        }
        real.become(kept);
        return real.writers;
    }

    // ---- the host

    public int sheet(int s, int sort, int n) {
        if (!isSheet(s) || !isWithin(sort, Sheet.NOT_THERE, INTS)) {
            return BAD;
        }
        if (sort == Sheet.NOT_THERE) {
            sheets[s].lay(sort, 0);
            return 1;
        }
        if (n > MOST_CELLS) {
            return BAD;
        }
        if (n < 0) {
            return BELOW_0;
        }
        sheets[s].lay(sort, n);
        return 1;
    }

    public int cell(int s, int i, int v) {
        if (!isSheet(s)) {
            return BAD;
        }
        if (sheets[s].isMissing()) {
            return MISSING;
        }
        if (!isWithin(i, 0, sheets[s].size - 1)) {
            return OUTSIDE;
        }
        sheets[s].set(i, v);
        return 1;
    }

    public int copy(int s, int i, int other, int j, int n) {
        if (!isSheet(s) || !isSheet(other)) {
            return BAD;
        }
        Sheet from = sheets[s];
        Sheet to = sheets[other];
        if (from.isMissing() || to.isMissing()) {
            return MISSING;
        }
        if (from.sort != to.sort) {
            return UNLIKE;
        }
        if (!from.holds(i, n) || !to.holds(j, n)) {
            return OUTSIDE;
        }
        System.arraycopy(from.row, i, to.row, j, n);
        return n;
    }

    public int writersBy(int s, int sort, int from, int n) {
        if (!isSheet(s) || !isWithin(sort, BYTES, INTS) || !isWithin(n, 0, MOST_WRITERS)) {
            return BAD;
        }
        Sheet by = sheets[s];
        if (by.isMissing()) {
            return MISSING;
        }
        if (by.sort != sort) {
            return UNLIKE;
        }
        int came = 0;
        int at = from;
        for (int k = 0; k < n; k++) {
            if (!by.holds(at, 3)) {
                return OUTSIDE;
            }
            if (settle(by.row[at], by.row[at + 1], by.row[at + 2]) >= 0) {
                came++;
            }
            at += 3;
        }
        return came;
    }

    public int taken(int i, int kind) {
        if (!isWithin(kind, 0, A_TONE)) {
            return -200;
        }
        if (!isWithin(i, 0, 2 * MOST_WRITERS - 1)) {
            return -1200;
        }
        int p = i % MOST_WRITERS;
        if (!real.has(p)) {
            return -1100;
        }
        boolean isTone = i >= MOST_WRITERS;
        if (isTone) {
            return kind == A_TONE ? real.tone[p] : -1300;
        }
        return isOfKind(real.kind[p], kind) ? p : -1300;
    }

    // ---- what several calls need

    private static boolean isWithin(int v, int least, int most) {
        return v >= least && v <= most;
    }

    private static boolean isByte(int v) {
        return isWithin(v, 0, 255);
    }

    private static boolean isTone(int v) {
        return isWithin(v, -MOST_TONE, MOST_TONE);
    }

    private static boolean isInk(int v) {
        return isWithin(v, 0, MOST_INK);
    }

    private static boolean isSheet(int s) {
        return isWithin(s, 0, MOST_SHEETS - 1);
    }

    private static int bounded(int v, int least, int most) {
        return Math.max(least, Math.min(most, v));
    }

    /** Whether a writer of a kind is one of the wanted kind, too. */
    private static boolean isOfKind(int kind, int wanted) {
        int above = kind;
        for (int i = 0; i < ABOVE.length && isWithin(above, 0, ABOVE.length - 1); i++) {
            if (above == wanted) {
                return true;
            }
            above = ABOVE[above];
        }
        return false;
    }

    /** Part 0 is what stands above the line, 1 what stands below it (above 0). */
    private static long inLowestTerms(int above, int below, int part) {
        int x = Math.abs(above);
        int y = below;
        for (int i = 0; i < 100 && y != 0; i++) {
            int rest = x % y;
            x = y;
            y = rest;
        }
        if (x == 0) {
            return NO;
        }
        return part == 0 ? above / x : below / x;
    }

    private int settle(int kindMore, int tones, int much) {
        boolean known = isWithin(kindMore, 0, 10 * KINDS.length - 1);
        if (!known || !isTone(tones) || !isInk(much)) {
            return BAD;
        }
        if (real.writers >= MOST_WRITERS) {
            return FULL;
        }
        return real.add(kindMore / 10, kindMore % 10, tones, much);
    }

    private int rank(int p, int what) {
        if (what == 2) {
            return Integer.bitCount(real.mixed[p]);
        }
        return what == 0 ? -real.tone[p] : real.tone[p];
    }

    /** What a call refuses of a sheet that should tell a post; 0: nothing. */
    private int refusalOfPost(int s) {
        if (!isSheet(s)) {
            return BAD;
        }
        if (sheets[s].isMissing()) {
            return MISSING;
        }
        return real.isPost(sheets[s]) ? 0 : BAD;
    }

    /** What judge() refuses of its sheets; 0: nothing. */
    private int refusalOfSheets(int s, int told) {
        if (!isSheet(told)) {
            return BAD;
        }
        int refusal = refusalOfPost(s);
        if (refusal != 0) {
            return refusal;
        }
        if (sheets[told].isMissing()) {
            return MISSING;
        }
        return sheets[told].size > sheets[s].size ? BAD : 0;
    }

    /** All that judge() refuses; 0: nothing. */
    private int refusalOfTold(int s, int told, int p) {
        int refusal = refusalOfSheets(s, told);
        if (refusal != 0) {
            return refusal;
        }
        return real.has(p) ? 0 : -5;
    }

    /**
     * Goes on from the one at whom a way of depth letters has come, by lesser numbers first, so
     * that the first of like ways is met first; seen has a bit for each on the way.
     */
    private void seekWays(int at, int to, int letters, int depth, int way, int seen) {
        if (depth >= letters || depth >= MOST_LETTERS) {
            return;
        }
        Bureau now = onTheWay[depth];
        Bureau then = onTheWay[depth + 1];
        for (int p = 0; p < now.writers; p++) {
            then.become(now);
            if ((seen >> p & 1) == 0 && then.letter(at, p)) {
                arrive(p, to, letters, depth + 1, 10 * way + p + 1, seen | 1 << p);
            }
        }
    }

    private void arrive(int at, int to, int letters, int depth, int way, int seen) {
        if (at != to) {
            seekWays(at, to, letters, depth, way, seen);
        } else if (onTheWay[depth].tone[to] > bestTone) {
            bestWay = way;
            bestTone = onTheWay[depth].tone[to];
        }
    }

    /** A post of n letters by a seed, in thought: how many are written. */
    private int thinkByLots(int seed, int n) {
        thought.become(real);
        lot = seed + 1;
        int written = 0;
        for (int i = 0; i < n; i++) {
            int a = nextLot();
            int b = nextLot();
            if (thought.areTwo(a, b) && thought.letter(a, b)) {
                written++;
            }
        }
        return written;
    }

    private int nextLot() {
        lot = lot * 48271 % 2147483647;
        return (int) (lot % MOST_WRITERS);
    }

    /** What each kind makes of a tone and of what the text says. */
    private enum Kind {
        WRITER,
        LOVER {
            int writes(int tone, int more) {
                return tone < 0 ? tone - more : tone + more;
            }
            int costs(int said, int more, int day) {
                return 2 * said;
            }
        },
        CLERK {
            int writes(int tone, int more) {
                return tone / 2;
            }
            int yields(int said, int more, int tone) {
                return said + more;
            }
        },
        WIDOW {
            int writes(int tone, int more) {
                return LOVER.writes(tone, more);
            }
            int yields(int said, int more, int tone) {
                int asLover = LOVER.yields(said, more, tone);
                return tone < 0 ? asLover : asLover / 3;
            }
            int costs(int said, int more, int day) {
                return day % 5 == 0 ? 1 : LOVER.costs(said, more, day);
            }
        },
        BANK {
            int writes(int tone, int more) {
                return Math.abs(CLERK.writes(tone, more));
            }
            int yields(int said, int more, int tone) {
                return 2 * CLERK.yields(said, more, tone);
            }
        },
        FORGER {
            int writes(int tone, int more) {
                return -tone;
            }
            int costs(int said, int more, int day) {
                return more;
            }
        };

        int writes(int tone, int more) {
            return tone;
        }

        int yields(int said, int more, int tone) {
            return said;
        }

        int costs(int said, int more, int day) {
            return said;
        }
    }

    /** All that letters change, and by what: truly, in thought, or as in the image. */
    private static final class Bureau {
        final Text[] texts;
        final int[] kind = new int[MOST_WRITERS];
        final int[] more = new int[MOST_WRITERS];
        final int[] tone = new int[MOST_WRITERS];
        final int[] ink = new int[MOST_WRITERS];
        final int[] mixed = new int[MOST_WRITERS];
        int writers = 0;
        int day = 0;
        int law = 0;

        Bureau(Text[] texts) {
            this.texts = texts;
        }

        void become(Bureau other) {
            for (int p = 0; p < MOST_WRITERS; p++) {
                kind[p] = other.kind[p];
                more[p] = other.more[p];
                tone[p] = other.tone[p];
                ink[p] = other.ink[p];
                mixed[p] = other.mixed[p];
            }
            writers = other.writers;
            day = other.day;
            law = other.law;
        }

        /** There must be room for one more. */
        int add(int itsKind, int itsMore, int itsTone, int itsInk) {
            int p = writers;
            kind[p] = itsKind;
            more[p] = itsMore;
            tone[p] = itsTone;
            ink[p] = itsInk;
            mixed[p] = 1 << p;
            writers++;
            return p;
        }

        boolean has(int p) {
            return p >= 0 && p < writers;
        }

        boolean areTwo(int a, int b) {
            return has(a) && has(b) && a != b;
        }

        int says(int part, int p) {
            return bounded(texts[law].value(part, this, p), 0, part == BOIL ? 100 : 99);
        }

        int writtenTone(int p) {
            int writes = KINDS[kind[p]].writes(tone[p], more[p]);
            return bounded(writes, -MOST_TONE, MOST_TONE);
        }

        int yieldOf(int p) {
            return KINDS[kind[p]].yields(says(YIELD, p), more[p], tone[p]);
        }

        int costOf(int p) {
            return KINDS[kind[p]].costs(says(COST, p), more[p], day);
        }

        int inWhoseInk(int p) {
            int bits = 0;
            for (int q = 0; q < writers; q++) {
                bits |= (mixed[q] >> p & 1) << q;
            }
            return bits;
        }

        int toneOfAll() {
            int sum = 0;
            for (int p = 0; p < writers; p++) {
                sum += tone[p];
            }
            return sum;
        }

        int inkOfAll() {
            int sum = 0;
            for (int p = 0; p < writers; p++) {
                sum += ink[p];
            }
            return sum;
        }

        /** Whether the letter is written; if it can't be, nothing changes. */
        boolean letter(int a, int b) {
            int cost = costOf(a);
            if (ink[a] <= 0 || ink[a] < cost) {
                return false;
            }
            int over = says(BOIL, b);
            int got = yieldOf(b);
            int boiled = (tone[b] * (100 - over) + writtenTone(a) * over) / 100;
            ink[a] -= cost;
            tone[b] = bounded(boiled, -MOST_TONE, MOST_TONE);
            ink[b] = Math.min(MOST_INK, ink[b] + got);
            mixed[b] |= mixed[a];
            return true;
        }

        /** So much of a tone comes to one's ink; there must be room for it. */
        void pour(int p, int much, int itsTone) {
            int then = ink[p] + much;
            if (then > 0) {
                tone[p] = (tone[p] * ink[p] + itsTone * much) / then;
            }
            ink[p] = then;
        }

        boolean isPost(Sheet told) {
            for (int i = 0; i < told.size; i++) {
                int letter = told.row[i];
                if (letter < 0 || !areTwo(letter / 10, letter % 10)) {
                    return false;
                }
            }
            return true;
        }

        /** How many letters of a post are written. */
        int lettersOf(Sheet told) {
            int written = 0;
            for (int i = 0; i < told.size; i++) {
                if (letter(told.row[i] / 10, told.row[i] % 10)) {
                    written++;
                }
            }
            return written;
        }

        int firstLeftOut(Sheet told) {
            for (int i = 0; i < told.size; i++) {
                if (!letter(told.row[i] / 10, told.row[i] % 10)) {
                    return i;
                }
            }
            return NONE;
        }

        /** Tones tells no more than there are letters. */
        int firstOtherwise(Sheet letters, Sheet tones, int p) {
            for (int i = 0; i < tones.size && i < letters.size; i++) {
                letter(letters.row[i] / 10, letters.row[i] % 10);
                if (tone[p] != tones.row[i]) {
                    return i;
                }
            }
            return NONE;
        }
    }

    /** What a text's three parts say, each as a row of tokens: operands ahead of their sign. */
    private static final class Text {
        final int[] code = new int[MOST_BYTES];
        final int[] ends = new int[PARTS];
        final int[] stack = new int[MOST_BYTES];
        int size = 0;

        void say(int boils, int yields, int costs) {
            size = 0;
            add(NUMBERS + boils);
            endPart(BOIL);
            add(NUMBERS + yields);
            endPart(YIELD);
            add(NUMBERS + costs);
            endPart(COST);
        }

        void add(int token) {
            if (size < code.length) {
                code[size] = token;
                size++;
            }
        }

        void endPart(int part) {
            ends[part] = size;
        }

        int value(int part, Bureau bureau, int p) {
            int top = 0;
            for (int i = part == 0 ? 0 : ends[part - 1]; i < ends[part]; i++) {
                int token = code[i];
                if (token >= TONE && top < stack.length) {
                    stack[top] = operand(token, bureau, p);
                    top++;
                } else if ((token == NOT || token == NEGATE) && top >= 1) {
                    int x = stack[top - 1];
                    stack[top - 1] = token == NEGATE ? -x : x == 0 ? 1 : 0;
                } else if (top >= 2) {
                    top--;
                    stack[top - 1] = joined(token, stack[top - 1], stack[top]);
                }
            }
            return stack[0];
        }

        private static int operand(int token, Bureau bureau, int p) {
            switch (token) {
                case TONE: return bureau.tone[p];
                case INK: return bureau.ink[p];
                case MIXED: return Integer.bitCount(bureau.mixed[p]);
                case DAY: return bureau.day;
                case WHO: return p;
                case MORE: return bureau.more[p];
                default: return token - NUMBERS;
            }
        }

        private static int joined(int token, int x, int y) {
            switch (token) {
                case OR: return x != 0 || y != 0 ? 1 : 0;
                case AND: return x != 0 && y != 0 ? 1 : 0;
                case '<': return x < y ? 1 : 0;
                case '=': return x == y ? 1 : 0;
                case '+': return x + y;
                case '-': return x - y;
                default: return x * y;
            }
        }
    }

    /**
     * The tape, and how it is read. The token read last stands at start; a function that answers
     * false leaves it there, as the one that can't stand: so start is the fault's place.
     */
    private static final class Tape {
        final int[] bytes = new int[MOST_BYTES];
        int size = 0;
        int start = 0;
        int place = 0;
        int token = END;
        int number = 0;

        void add(int v) {
            if (size < bytes.length) {
                bytes[size] = v;
                size++;
            }
        }

        /** The place of the fault; -1: none. */
        int readInto(Text text) {
            text.size = 0;
            place = 0;
            advance();
            for (int part = 0; part < PARTS; part++) {
                if (!readPart(text, part)) {
                    return start;
                }
            }
            return token == END ? -1 : start;
        }

        private boolean readPart(Text text, int part) {
            if (token != BOILS + part) {
                return false;
            }
            advance();
            if (!readOr(text, 0) || token != ';') {
                return false;
            }
            advance();
            text.endPart(part);
            return true;
        }

        private boolean readOr(Text text, int open) {
            if (!readAnd(text, open)) {
                return false;
            }
            for (int i = 0; i < MOST_BYTES && token == OR; i++) {
                advance();
                if (!readAnd(text, open)) {
                    return false;
                }
                text.add(OR);
            }
            return true;
        }

        private boolean readAnd(Text text, int open) {
            if (!readNot(text, open)) {
                return false;
            }
            for (int i = 0; i < MOST_BYTES && token == AND; i++) {
                advance();
                if (!readNot(text, open)) {
                    return false;
                }
                text.add(AND);
            }
            return true;
        }

        private boolean readNot(Text text, int open) {
            if (token == NOT) {
                return readBehind(text, NOT, open);
            }
            if (!readSum(text, open)) {
                return false;
            }
            if (token == '<' || token == '=') {
                int sign = token;
                advance();
                if (!readSum(text, open)) {
                    return false;
                }
                text.add(sign);
            }
            return true;
        }

        private boolean readSum(Text text, int open) {
            if (!readTerm(text, open)) {
                return false;
            }
            for (int i = 0; i < MOST_BYTES && (token == '+' || token == '-'); i++) {
                int sign = token;
                advance();
                if (!readTerm(text, open)) {
                    return false;
                }
                text.add(sign);
            }
            return true;
        }

        private boolean readTerm(Text text, int open) {
            if (!readOne(text, open)) {
                return false;
            }
            for (int i = 0; i < MOST_BYTES && token == '*'; i++) {
                advance();
                if (!readOne(text, open)) {
                    return false;
                }
                text.add('*');
            }
            return true;
        }

        private boolean readOne(Text text, int open) {
            if (token == '-') {
                return readBehind(text, NEGATE, open);
            }
            if (token == '(') {
                return readInside(text, open);
            }
            boolean isNumber = token == NUMBER;
            if (!isNumber && token < TONE) {
                return false;
            }
            text.add(isNumber ? NUMBERS + number : token);
            advance();
            return true;
        }

        /** Behind a not stands a NOT, behind a - stands a ONE. */
        private boolean readBehind(Text text, int sign, int open) {
            if (open >= MOST_OPEN) {
                return false;
            }
            advance();
            boolean stands = sign == NOT ? readNot(text, open + 1) : readOne(text, open + 1);
            if (stands) {
                text.add(sign);
            }
            return stands;
        }

        private boolean readInside(Text text, int open) {
            if (open >= MOST_OPEN) {
                return false;
            }
            advance();
            if (!readOr(text, open + 1) || token != ')') {
                return false;
            }
            advance();
            return true;
        }

        private void advance() {
            while (place < size && isBlank(bytes[place])) {
                place++;
            }
            start = place;
            if (place >= size) {
                token = END;
            } else if (isLetter(bytes[place])) {
                token = word();
            } else if (isDigit(bytes[place])) {
                token = digits();
            } else {
                token = SIGNS.indexOf((char) bytes[place]) >= 0 ? bytes[place] : WRONG;
                place++;
            }
        }

        private int word() {
            while (place < size && isLetter(bytes[place])) {
                place++;
            }
            int word = BOILS;
            int at = start;
            boolean like = true;
            for (int k = 0; k < WORDS.length(); k++) {
                char c = WORDS.charAt(k);
                if (c == ' ' && like && at == place) {
                    return word;
                }
                if (c == ' ') {
                    word++;
                    at = start;
                    like = true;
                } else {
                    like = like && at < place && bytes[at] == c;
                    at++;
                }
            }
            return WRONG;
        }

        private int digits() {
            number = 0;
            while (place < size && isDigit(bytes[place])) {
                number = 10 * number + bytes[place] - '0';
                place++;
            }
            return place - start > MOST_DIGITS ? WRONG : NUMBER;
        }

        private static boolean isBlank(int v) {
            return v == 32 || v == 10;
        }

        private static boolean isLetter(int v) {
            return v >= 'a' && v <= 'z';
        }

        private static boolean isDigit(int v) {
            return v >= '0' && v <= '9';
        }
    }

    /** A row of numbers of a sort, or missing. */
    private static final class Sheet {
        static final int NOT_THERE = -1;

        final int[] row = new int[MOST_CELLS];
        int sort = NOT_THERE;
        int size = 0;

        void lay(int itsSort, int itsSize) {
            sort = itsSort;
            size = itsSize;
            for (int i = 0; i < MOST_CELLS; i++) {
                row[i] = 0;
            }
        }

        boolean isMissing() {
            return sort == NOT_THERE;
        }

        /** Whether n places from i on are all inside; written so that no sum passes an int. */
        boolean holds(int i, int n) {
            return n >= 0 && n <= size && i >= 0 && i <= size - n;
        }

        void set(int i, int v) {
            if (sort == BYTES) {
                row[i] = (byte) v;
            } else if (sort == SHORTS) {
                row[i] = (short) v;
            } else {
                row[i] = v;
            }
        }
    }
}
