/** Promises 20 to 29, sentence by sentence: told posts, posts by lots, images. */
public final class JudgedTest {
    private static final Checks C = new Checks();
    private static final long NO = -4611686018427387904L;

    public static void main(String[] args) {
        judgeFirst();
        judgeLengths();
        judgeFortyLetters();
        kindsAndMore();
        inksAtFirst();
        inksAtTheEdges();
        whoseAndLaws();
        film();
        firstTold();
        drawn();
        lots();
        odds();
        oddsInLowestTerms();
        images();
        C.end();
    }

    private static InkOfLetters lawful(InkOfLetters x, int boils, int yields, int costs) {
        Checks.law(x, "boils " + boils + ";yields " + yields + ";costs " + costs + ";");
        return x;
    }

    /** Behind the letters 01, 01, 12, 10, 21 the tones are 64 32 0, 64 48 0, 64 48 24, 56 48 24, 56 36 24. */
    private static InkOfLetters five() {
        InkOfLetters x = lawful(Checks.bureau(0, 64, 90, 0, 0, 90, 0, 0, 90), 50, 0, 10);
        Checks.sheet(x, 0, 0, 1, 1, 12, 10, 21);
        return x;
    }

    private static final int[][] TONES = {{64, 64, 64, 56, 56}, {32, 48, 48, 48, 36}, {0, 0, 24, 24, 24}};

    private static void judgeFirst() {
        C.of("promise 20: the first (from 0) that is otherwise; -1: none");
        for (int p = 0; p < 3; p++) {
            InkOfLetters x = five();
            for (int sort = 0; sort < 3; sort++) {
                Checks.sheet(x, 1, sort, TONES[p]);
                C.due("none, of " + p, x.judge(0, 1, p), -1);
                for (int i = 0; i < 5; i++) {
                    for (int off = -1; off <= 1; off += 2) {
                        x.cell(1, i, TONES[p][i] + off);
                        C.due("at " + i + ", of " + p, x.judge(0, 1, p), i);
                    }
                    x.cell(1, i, TONES[p][i]);
                }
                x.cell(1, 4, 99);
                x.cell(1, 1, -99);
                C.due("the first of two, of " + p, x.judge(0, 1, p), 1);
            }
            C.due("in thought", x.told(p, 0), new int[] {64, 0, 0}[p]);
        }
        C.of("promise 20: TONE of one behind each LETTER, written or left out");
        InkOfLetters x = lawful(Checks.bureau(0, 64, 10, 0, 0, 0, 0, 0, 0), 50, 0, 10);
        Checks.sheet(x, 0, 0, 21, 1, 1, 12);
        Checks.sheet(x, 1, 0, 0, 32, 32, 32);
        C.due("left out, written, left out, left out", x.judge(0, 1, 1), -1);
        x.cell(1, 0, 32);
        C.due("ahead of the one that is written", x.judge(0, 1, 1), 0);
        C.of("promise 20: no TONE is 100 or -100");
        x = five();
        Checks.sheet(x, 1, 2, 64, 64, 64 + 256);
        C.due("ints", x.judge(0, 1, 0), 2);
        Checks.sheet(x, 1, 0, 64, 64, 64 + 256);
        C.due("bytes: its lowest 8 bits", x.judge(0, 1, 0), -1);
        Checks.sheet(x, 1, 1, 64, 64 + 65536, 64 + 256);
        C.due("shorts: its lowest 16 bits", x.judge(0, 1, 0), 2);
    }

    private static void judgeLengths() {
        C.of("promise 20: BAD: it tells more than s");
        InkOfLetters x = five();
        for (int n = 0; n <= 7; n++) {
            x.sheet(1, 1, n);
            for (int i = 0; i < n && i < 5; i++) {
                x.cell(1, i, TONES[1][i]);
            }
            int due = n > 5 ? -2 : -1;
            C.due("judge of " + n, x.judge(0, 1, 1), due);
            C.due("kinds of " + n, x.kinds(0, 1, 1, 0) < 0 ? -2 : -1, due);
            C.due("inks of " + n, x.inks(0, 1, 1, 0, 1), n > 5 ? -1002 : n == 0 ? -99 : 0);
            C.due("whose of " + n, x.whose(0, 1), n > 5 ? -2 : n == 0 ? 7 : 2);
            C.due("laws of " + n + ", half comes over by both", x.laws(0, 1, 1), n > 5 ? -2 : 3);
        }
        C.of("promise 20: no LETTERS, no TONES");
        x.sheet(0, 2, 0);
        x.sheet(1, 0, 0);
        C.due("judge", x.judge(0, 1, 0), -1);
        C.due("kinds", x.kinds(0, 1, 0, 0), 63);
        C.due("MORE", x.kinds(0, 1, 0, 1), 1023);
        C.due("TONES", x.inks(0, 1, 0, 0, 0), 199);
        C.due("INKS", x.inks(0, 1, 0, 1, 0), 100);
        C.due("whose", x.whose(0, 1), 7);
        C.due("laws", x.laws(0, 1, 0), 3);
        C.due("judge by itself", x.judge(0, 0, 0), -1);
        x.sheet(1, 0, 1);
        C.due("one TONE", x.judge(0, 1, 0), -2);
    }

    private static void judgeFortyLetters() {
        C.of("promises 20, 25: 40 LETTERS");
        InkOfLetters x = lawful(Checks.bureau(0, 99, 40, 0, 0, 0), 1, 0, 1);
        x.sheet(0, 1, 40);
        for (int i = 0; i < 40; i++) {
            x.cell(0, i, 1);
        }
        C.due("film", x.film(0, 1, 1), 40);
        C.due("judge", x.judge(0, 1, 1), -1);
        C.due("written", x.post(0, 0), 40);
        x.cell(1, 39, -1);
        C.due("the last is otherwise", x.judge(0, 1, 1), 39);
        x.put(0, 1, 39);
        C.due("the last is left out", x.post(0, 1), 39);
        C.due("written", x.post(0, 0), 39);
    }

    private static void kindsAndMore() {
        C.of("promise 21: KINDS (bits 0 .. 5), MORE (bits 0 .. 9) by which that would be -1");
        // 1 writes to 0, and 0 what it boiled of that back to 1: so 1 has the tone in which it wrote
        int[][] due = {
            // TONE of 1, TONE of 1 behind both, KINDS
            {-33, -33, 1}, {-33, -37, 2 + 8}, {-33, -16, 4}, {-33, 16, 16}, {-33, 33, 32}, {-33, 0, 0},
            {33, 33, 1}, {33, 37, 2 + 8}, {33, 16, 4 + 16}, {33, -33, 32}, {33, -16, 0}, {33, -37, 0},
            {0, 0, 1 + 4 + 16 + 32}, {0, 4, 2 + 8},
        };
        for (int[] row : due) {
            for (int kind = 0; kind < 6; kind++) {
                InkOfLetters x = lawful(Checks.bureau(0, 0, 9, 10 * kind + 4, row[0], 40), 100, 0, 0);
                Checks.sheet(x, 0, 0, 10, 1);
                Checks.sheet(x, 1, 0, row[0], row[1]);
                C.due("KINDS, " + row[0] + " became " + row[1], x.kinds(0, 1, 1, 0), row[2]);
                C.due("judge, it is of " + kind, x.judge(0, 1, 1), (row[2] >> kind & 1) == 1 ? -1 : 1);
                C.due("KIND, as it was", x.told(1, 2), kind);
            }
        }
        C.of("promise 21: MORE by which that would be -1");
        for (int more = 0; more < 10; more++) {
            InkOfLetters x = lawful(Checks.bureau(0, 0, 50, 13, 40, 50), 100, 0, 0);
            Checks.sheet(x, 0, 0, 10, 1);
            Checks.sheet(x, 1, 0, 40, 40 + more);
            C.due("MORE " + more, x.kinds(0, 1, 1, 1), 1 << more);
            C.due("KINDS " + more, x.kinds(0, 1, 1, 0), more == 3 ? 10 : more == 0 ? 1 : 0);
            x.put(1, 0, 95);
            Checks.sheet(x, 1, 0, 95, 99);
            C.due("MORE by the bound", x.kinds(0, 1, 1, 1), 1008);
            C.due("MORE, as it was", x.told(1, 3), 3);
            C.due("KIND, as it was", x.told(1, 2), 1);
        }
        C.of("promise 21: -7: sort");
        InkOfLetters x = five();
        x.sheet(1, 0, 0);
        for (int sort : new int[] {-1, 2, 3, 9, Integer.MIN_VALUE, Integer.MAX_VALUE}) {
            C.due("sort " + sort, x.kinds(0, 1, 0, sort), -7);
        }
    }

    private static void inksAtFirst() {
        C.of("promise 22: by which, were it so at first, that would be -1: how many, the least; -1000: none");
        InkOfLetters x = lawful(Checks.bureau(0, 10, 30, 0, 20, 30), 50, 0, 10);
        Checks.sheet(x, 0, 0, 1, 1);
        Checks.sheet(x, 1, 0, 15, 12);
        C.due("TONES of 1: 20, 21", x.inks(0, 1, 1, 0, 0), 2);
        C.due("the least", x.inks(0, 1, 1, 0, 1), 20);
        C.due("INKS of 1: all", x.inks(0, 1, 1, 1, 0), 100);
        C.due("the least", x.inks(0, 1, 1, 1, 1), 0);
        Checks.sheet(x, 1, 0, 15, 15);
        C.due("TONES of 1: none", x.inks(0, 1, 1, 0, 0), 0);
        C.due("the least", x.inks(0, 1, 1, 0, 1), -1000);
        C.due("TONES of 0: it stays", x.inks(0, 1, 0, 0, 0), 1);
        C.due("the least", x.inks(0, 1, 0, 0, 1), 15);
        x.sheet(1, 0, 1);
        x.cell(1, 0, 10);
        C.due("INKS of 0: all", x.inks(0, 1, 0, 1, 0), 100);
        C.of("promise 22: INK by which it is written, or left out");
        x = lawful(Checks.bureau(0, 10, 30, 0, 20, 0), 50, 0, 10);
        Checks.sheet(x, 0, 0, 10, 1);
        Checks.sheet(x, 1, 0, 20, 17);
        C.due("10 writes 15, and that one boils it", x.inks(0, 1, 1, 1, 0), 90);
        C.due("the least", x.inks(0, 1, 1, 1, 1), 10);
        Checks.sheet(x, 1, 0, 20, 15);
        C.due("left out", x.inks(0, 1, 1, 1, 0), 10);
        C.due("the least", x.inks(0, 1, 1, 1, 1), 0);
        C.due("INK, as it was", x.told(1, 1), 0);
        C.due("TONE, as it was", x.told(1, 0), 20);
    }

    private static void inksAtTheEdges() {
        C.of("promise 22: TONE -99 .. 99, INK 0 .. 99, each of them");
        for (int tone : new int[] {-100, -99, -98, -1, 0, 1, 98, 99, 100}) {
            InkOfLetters x = lawful(Checks.bureau(0, 5, 30, 0, 20, 30), 0, 0, 0);
            Checks.sheet(x, 0, 0, 1);
            Checks.sheet(x, 1, 1, tone);
            boolean is = tone >= -99 && tone <= 99;
            C.due("TONE " + tone, x.inks(0, 1, 0, 0, 0), is ? 1 : 0);
            C.due("it", x.inks(0, 1, 0, 0, 1), is ? tone : -1000);
        }
        for (int cost : new int[] {0, 1, 2, 50, 98, 99}) {
            int least = Math.max(1, cost);
            C.due("INKS by which a letter of " + cost + " can be written", inksByWhich(cost, 0), 100 - least);
            C.due("the least", inksByWhich(cost, 1), least);
        }
        C.of("promise 22: -7000: sort, what");
        InkOfLetters x = five();
        x.sheet(1, 0, 0);
        for (int v : new int[] {-1, 2, 3, Integer.MIN_VALUE, Integer.MAX_VALUE}) {
            C.due("sort " + v, x.inks(0, 1, 0, v, 0), -7000);
            C.due("what " + v, x.inks(0, 1, 0, 0, v), -7000);
        }
    }

    /** 1 writes, if it can, to 0, who had no ink till then, and who writes back. */
    private static int inksByWhich(int cost, int what) {
        InkOfLetters x = Checks.bureau(0, 5, 0, 0, -20, 0);
        Checks.law(x, "boils 50;yields 99;costs (who=1)*" + cost + ";");
        Checks.sheet(x, 0, 0, 10, 1);
        Checks.sheet(x, 1, 0, -20, -13);
        return x.inks(0, 1, 1, 1, what);
    }

    private static void whoseAndLaws() {
        C.of("promise 23: WRITERS (bits) of whom that is -1");
        InkOfLetters x = new InkOfLetters();
        for (int p = 0; p < 7; p++) {
            x.writer(0, p % 3, 50);
        }
        Checks.law(x, "boils 0;yields 0;costs 0;");
        Checks.sheet(x, 0, 0, 1, 65);
        for (int tone = -1; tone <= 3; tone++) {
            Checks.sheet(x, 1, 0, tone, tone);
            C.due("of TONE " + tone, x.whose(0, 1), tone == 0 ? 73 : tone == 1 ? 18 : tone == 2 ? 36 : 0);
        }
        C.due("seven", whoseOfNone(x), 127);
        C.of("promise 24: TEXTS (bits), were they THE LAW");
        InkOfLetters y = Checks.bureau(0, 99, 99, 0, 0, 99);
        Checks.sheet(y, 0, 0, 1);
        for (int t = 1; t < 6; t++) {
            Checks.text(y, "boils " + 10 * (t % 3) + ";yields 0;costs 0;");
        }
        int[] tones = {49, 0, 9, 19, 50};
        int[] bits = {1, 8, 18, 36, 0};
        for (int i = 0; i < 5; i++) {
            Checks.sheet(y, 1, 0, tones[i]);
            C.due("TONE " + tones[i], y.laws(0, 1, 1), bits[i]);
        }
        y.sheet(1, 0, 0);
        C.due("all six", y.laws(0, 1, 1), 63);
        C.due("THE LAW, as it was", y.count(4), 0);
        y.force(5);
        Checks.sheet(y, 1, 0, 49);
        C.due("whatever THE LAW is", y.laws(0, 1, 1), 1);
        C.due("THE LAW, as it was", y.count(4), 5);
    }

    private static int whoseOfNone(InkOfLetters x) {
        x.sheet(1, 0, 0);
        return x.whose(0, 1);
    }

    private static void film() {
        C.of("promise 25: TONE of one behind each LETTER (bytes): how many");
        for (int p = 0; p < 3; p++) {
            for (int sort = -1; sort < 3; sort++) {
                InkOfLetters x = five();
                x.sheet(1, sort, 40);
                C.due("film", x.film(0, 1, p), 5);
                C.due("bytes", x.writersBy(1, 0, 0, 0), 0);
                C.due("its last", x.copy(1, 4, 1, 4, 1), 1);
                C.due("behind its last", x.cell(1, 5, 0), -12);
                C.due("none is otherwise", x.judge(0, 1, p), -1);
                for (int i = 0; i < 5; i++) {
                    Checks.sheet(x, 2, 0, TONES[p]);
                    C.due("a copy", x.copy(1, i, 2, i, 1), 1);
                    C.due("TONE at " + i, x.judge(0, 2, p), -1);
                }
                C.due("in thought", x.told(p, 0), p == 0 ? 64 : 0);
                C.due("in thought", x.told(p, 1), 90);
                C.due("DAY", x.count(1), 0);
            }
        }
        C.of("promise 25: a POST of none");
        InkOfLetters x = five();
        x.sheet(2, 1, 0);
        x.sheet(1, 1, 9);
        C.due("film", x.film(2, 1, 0), 0);
        C.due("a row of none", x.cell(1, 0, 0), -12);
        C.due("bytes", x.writersBy(1, 0, 0, 0), 0);
        C.of("promise 25: a film of letters that is no longer a POST");
        C.due("film", x.film(0, 1, 0), 5);
        C.due("tones are no letters", x.film(1, 2, 0), -2);
    }

    /** The first that judge() and its like refuse, of a sheet s, a sheet told, one: by the number there. */
    private static void first(InkOfLetters x, int s, int told, int p, int due) {
        String all = "(" + s + ", " + told + ", " + p + ")";
        C.due("judge" + all, x.judge(s, told, p), due);
        C.due("kinds" + all + " sort 9", x.kinds(s, told, p, 9), due);
        C.due("inks" + all + " sort 9, what 9", x.inks(s, told, p, 9, 9), due - 1000);
        C.due("laws" + all, x.laws(s, told, p), due);
        C.due("whose" + all, x.whose(s, told), due == -5 ? 0 : due);
    }

    private static void firstTold() {
        C.of("promises 20 to 24, of several refusals the first one told");
        InkOfLetters x = five();
        Checks.sheet(x, 1, 0, 5, 5, 5, 5, 5, 5);
        Checks.sheet(x, 2, 0, 33);
        first(x, 9, 9, 9, -2);
        first(x, 3, 4, 9, -2);
        first(x, 3, -1, 9, -2);
        first(x, 4, 3, 9, -2);
        first(x, -1, 3, 9, -2);
        first(x, 3, 3, 9, -11);
        first(x, 3, 1, 9, -11);
        first(x, 2, 3, 9, -2);
        first(x, 2, 1, 9, -2);
        first(x, 0, 3, 9, -11);
        first(x, 0, 1, 9, -2);
        x.sheet(1, 0, 5);
        first(x, 0, 1, 3, -5);
        first(x, 0, 1, -1, -5);
        C.due("kinds: none such, sort", x.kinds(0, 1, 3, 2), -5);
        C.due("inks: none such, sort", x.inks(0, 1, 3, 2, 0), -1005);
        C.due("inks: none such, what", x.inks(0, 1, 3, 0, 2), -1005);
    }

    private static void drawn() {
        C.of("promise 26: SEED (0 .. 99999), n LETTERS (0 .. 60), what 0, 1; -1000");
        InkOfLetters x = Checks.bureau(0, 40, 99, 0, 2, 99);
        C.due("SEED 0, n 0", x.drawn(0, 0, 0), 42);
        C.due("SEED 99999, n 0", x.drawn(99999, 0, 0), 42);
        C.due("none written of none", x.drawn(0, 0, 1), 0);
        for (int v : new int[] {-1, 100000, Integer.MIN_VALUE, Integer.MAX_VALUE}) {
            C.due("SEED " + v, x.drawn(v, 0, 0), -1000);
        }
        for (int v : new int[] {-1, 61, Integer.MIN_VALUE, Integer.MAX_VALUE}) {
            C.due("n " + v, x.drawn(0, v, 0), -1000);
        }
        for (int v : new int[] {-1, 2, Integer.MIN_VALUE, Integer.MAX_VALUE}) {
            C.due("what " + v, x.drawn(0, 0, v), -1000);
        }
        C.of("promise 26: of nobody, of one");
        C.due("TONE of nobody", new InkOfLetters().drawn(3, 60, 0), 0);
        C.due("written by nobody", new InkOfLetters().drawn(3, 60, 1), 0);
        C.due("TONE of one", Checks.bureau(0, -7, 99).drawn(3, 60, 0), -7);
        C.due("written by one", Checks.bureau(0, -7, 99).drawn(3, 60, 1), 0);
    }

    /** Each LOT by its own: of whom to whom the first LETTERS of a SEED are. */
    private static void lots() {
        C.of("LOTS: the first is (SEED and 1) times 48271 modulo 2147483647, each further one the last times 48271");
        for (int seed : new int[] {0, 1, 2, 44487, 44488, 44489, 99998, 99999}) {
            InkOfLetters x = new InkOfLetters();
            int[] tones = new int[7];
            int[] inks = new int[7];
            for (int p = 0; p < 7; p++) {
                tones[p] = 9 * p - 27;
                inks[p] = 60;
                x.writer(0, tones[p], inks[p]);
            }
            Checks.law(x, "boils 100;yields 0;costs 10;");
            long lot = seed + 1L;
            int written = 0;
            for (int n = 1; n <= 60; n++) {
                lot = lot * 48271L % 2147483647L;
                int a = (int) (lot % 7);
                lot = lot * 48271L % 2147483647L;
                int b = (int) (lot % 7);
                if (a != b && inks[a] >= 10) {
                    tones[b] = tones[a];
                    inks[a] -= 10;
                    written++;
                }
                int sum = 0;
                for (int tone : tones) {
                    sum += tone;
                }
                C.due("SEED " + seed + ", TONE behind " + n, x.drawn(seed, n, 0), sum);
                C.due("SEED " + seed + ", written of " + n, x.drawn(seed, n, 1), written);
            }
        }
    }

    private static void odds() {
        C.of("promise 27: so many (1 .. 40) seeds, least (-999 .. 999), part 0, 1; NO");
        InkOfLetters x = Checks.bureau(0, 40, 99, 0, 2, 99);
        C.due("SEED 0", x.odds(0, 1, -999, 0), 1);
        C.due("SEED 99999", x.odds(99999, 1, -999, 1), 1);
        C.due("40 seeds past 99999", x.odds(99999, 40, -999, 0), 1);
        C.due("40 seeds", x.odds(99999, 40, 999, 0), 0);
        for (int v : new int[] {-1, 100000, Integer.MIN_VALUE, Integer.MAX_VALUE}) {
            C.due("SEED " + v, x.odds(v, 1, 0, 0), NO);
        }
        for (int v : new int[] {-1, 0, 41, Integer.MIN_VALUE, Integer.MAX_VALUE}) {
            C.due("seeds " + v, x.odds(0, v, 0, 0), NO);
        }
        for (int v : new int[] {-1000, 1000, Integer.MIN_VALUE, Integer.MAX_VALUE}) {
            C.due("least " + v, x.odds(0, 1, v, 0), NO);
        }
        for (int v : new int[] {-1, 2, Integer.MIN_VALUE, Integer.MAX_VALUE}) {
            C.due("part " + v, x.odds(0, 1, 0, v), NO);
        }
        C.of("promise 27: TONE of all, together, is least or more");
        int tone = x.drawn(7, 20, 0);
        C.due("least", x.odds(7, 1, tone, 0), 1);
        C.due("1 more", x.odds(7, 1, tone + 1, 0), 0);
        C.due("1 less", x.odds(7, 1, tone - 1, 0), 1);
        C.due("of nobody: 0", new InkOfLetters().odds(0, 40, 0, 0), 1);
        C.due("of nobody: 1", new InkOfLetters().odds(0, 40, 1, 0), 0);
    }

    private static long divisor(long a, long b) {
        return b == 0 ? a : divisor(b, a % b);
    }

    private static void oddsInLowestTerms() {
        C.of("promise 27: SEED and each 1 more, of 20 LETTERS, in lowest terms");
        for (int seeds = 1; seeds <= 40; seeds++) {
            InkOfLetters x = Checks.bureau(0, 40, 50, 10, -20, 50, 45, 3, 50, 50, 9, 50);
            int hits = 0;
            for (int i = 0; i < seeds; i++) {
                hits += x.drawn(500 + i, 20, 0) >= 40 ? 1 : 0;
            }
            long by = divisor(hits, seeds);
            C.due("above, of " + seeds, x.odds(500, seeds, 40, 0), hits / by);
            C.due("below, of " + seeds, x.odds(500, seeds, 40, 1), seeds / by);
        }
    }

    private static void images() {
        C.of("promises 28, 29: TONES, INKS, MIXED of all, how many WRITERS, DAY, THE LAW");
        InkOfLetters x = new InkOfLetters();
        C.due("STATE: there is none", x.back(), -3);
        C.due("an image of nobody", x.image(), 0);
        C.due("back to nobody", x.back(), 0);
        for (int p = 0; p < 7; p++) {
            x.writer(10 * (p % 6) + p, 5 * p, 50 + p);
            C.due("an image of " + (p + 1), x.image(), p + 1);
        }
        Checks.text(x, "boils 100;yields 9;costs 1;");
        for (int round = 0; round < 2; round++) {
            x.force(1);
            x.dawn(70 + round);
            for (int p = 0; p < 7; p++) {
                x.write(p, (p + 1) % 7);
                x.borrow(p, (p + 2) % 7);
                x.water(p, 1);
            }
            C.due("back to seven", x.back(), 7);
            C.due("DAY", x.count(1), 0);
            C.due("THE LAW", x.count(4), 0);
            C.due("TEXTS stay", x.count(3), 2);
            for (int p = 0; p < 7; p++) {
                int[] due = {5 * p, 50 + p, p % 6, p, 1 << p};
                for (int what = 0; what < 5; what++) {
                    C.due("told(" + p + ", " + what + ")", x.told(p, what), due[what]);
                }
            }
        }
        C.of("promise 29: WRITERS that came since are none");
        InkOfLetters y = Checks.bureau(5, 1, 50, 6, 2, 50);
        y.image();
        C.due("a third", y.writer(17, 9, 9), 2);
        y.write(0, 2);
        y.write(1, 0);
        C.due("back", y.back(), 2);
        C.due("none such", y.told(2, 0), -5000);
        C.due("none such", y.write(2, 0), -5000);
        C.due("a third, of another KIND", y.writer(28, -9, 8), 2);
        int[] due = {-9, 8, 2, 8, 4, -4, 28, 10, 4};
        for (int what = 0; what < 9; what++) {
            C.due("told(2, " + what + ")", y.told(2, what), due[what]);
        }
        C.due("back again", y.back(), 2);
        C.of("promise 28: an image of less than there were");
        C.due("image", y.image(), 2);
        y.dawn(5);
        C.due("image of now", y.image(), 2);
        y.dawn(9);
        y.back();
        C.due("DAY of the last image", y.count(1), 5);
    }
}
