/** Promises 30 to 34, sentence by sentence: what the host's sheets hold, and what lies at a place. */
public final class RowsTest {
    private static final Checks C = new Checks();

    public static void main(String[] args) {
        sizesAndSorts();
        lowestBits();
        cellPlaces();
        copies();
        copyPlaces();
        writersByThrees();
        writersByRoom();
        writersByPlaces();
        taken();
        C.end();
    }

    /** Of sheet s the number at i, told by inks() (-99 .. 99; -1000: another one); 2 and 3 are laid anew. */
    private static int at(InkOfLetters x, int s, int i) {
        while (x.count(0) < 2) {
            x.writer(0, 0, 0);
        }
        int sort = x.writersBy(s, 0, 0, 0) == 0 ? 0 : x.writersBy(s, 1, 0, 0) == 0 ? 1 : 2;
        x.sheet(3, sort, 1);
        x.copy(s, i, 3, 0, 1);
        Checks.sheet(x, 2, 0, 1);
        return x.inks(2, 3, 0, 0, 1);
    }

    private static void row(String told, InkOfLetters x, int s, int... due) {
        for (int i = 0; i < due.length; i++) {
            C.due(told + ": sheet " + s + " at " + i, at(x, s, i), due[i]);
        }
        C.due(told + ": behind its last", x.cell(s, due.length, 0), -12);
    }

    private static void sizesAndSorts() {
        C.of("promise 30: a row of n of a sort, all 0");
        for (int sort = 0; sort < 3; sort++) {
            for (int n : new int[] {0, 1, 2, 39, 40}) {
                for (int s = 0; s < 2; s++) {
                    InkOfLetters x = new InkOfLetters();
                    x.sheet(s, 2 - sort, 40);
                    for (int i = 0; i < 40; i++) {
                        x.cell(s, i, 7);
                    }
                    C.due("sheet of " + n, x.sheet(s, sort, n), 1);
                    C.due("behind its last", x.cell(s, n, 5), -12);
                    for (int other = 0; other < 3; other++) {
                        C.due("of sort " + other, x.writersBy(s, other, 0, 0), other == sort ? 0 : -13);
                    }
                    row("all 0", x, s, new int[n]);
                }
            }
            InkOfLetters x = new InkOfLetters();
            C.due("n 41", x.sheet(0, sort, 41), -2);
            C.due("n -1", x.sheet(0, sort, -1), -14);
            C.due("still missing", x.cell(0, 0, 0), -11);
        }
        C.of("promise 30: all 0, of the same sort and size, too");
        InkOfLetters x = new InkOfLetters();
        Checks.sheet(x, 0, 1, 5, 6, 7);
        x.sheet(0, 1, 3);
        row("anew", x, 0, 0, 0, 0);
        C.of("promise 30: what was in a row that was shorter for a while is gone");
        Checks.sheet(x, 0, 0, 5, 6, 7);
        x.sheet(0, 0, 1);
        x.sheet(0, 0, 3);
        row("longer again", x, 0, 0, 0, 0);
        C.of("promise 30: missing (sort -1: n does not matter)");
        for (int n : new int[] {0, 1, 40, 41, -1, Integer.MIN_VALUE, Integer.MAX_VALUE}) {
            Checks.sheet(x, 1, 2, 5, 6, 7);
            C.due("n " + n, x.sheet(1, -1, n), 1);
            C.due("cell", x.cell(1, 0, 1), -11);
            C.due("copy of it", x.copy(1, 0, 0, 0, 1), -11);
            C.due("copy to it", x.copy(0, 0, 1, 0, 1), -11);
            C.due("post", x.post(1, 0), -1011);
        }
        C.due("anew", x.sheet(1, 2, 3), 1);
        row("all 0", x, 1, 0, 0, 0);
        C.of("promise 30: other SHEETS stay as they are");
        Checks.sheet(x, 0, 0, 5, 6);
        Checks.sheet(x, 1, 1, 7, 8);
        x.sheet(0, 2, 1);
        row("the other one", x, 1, 7, 8);
    }

    /** Rows of what a cell becomes, and what bytes, shorts, ints hold of it (-1000: no tone). */
    private static void lowestBits() {
        C.of("promise 31: becomes v (of bytes, shorts its lowest 8, 16 bits)");
        int[][] due = {
            {0, 0, 0, 0}, {99, 99, 99, 99}, {-99, -99, -99, -99}, {-1, -1, -1, -1},
            {255, -1, -1000, -1000}, {256, 0, -1000, -1000}, {257, 1, -1000, -1000}, {157, -99, -1000, -1000},
            {-157, 99, -1000, -1000}, {-255, 1, -1000, -1000}, {-256, 0, -1000, -1000}, {355, 99, -1000, -1000},
            {65535, -1, -1, -1000}, {65536, 0, 0, -1000}, {65437, -99, -99, -1000}, {65635, 99, 99, -1000},
            {-65437, 99, 99, -1000}, {-65536, 0, 0, -1000}, {32768, 0, -1000, -1000}, {32767, -1, -1000, -1000},
            {-32769, -1, -1000, -1000}, {16777216, 0, 0, -1000}, {16777299, 83, 83, -1000},
            {Integer.MAX_VALUE, -1, -1, -1000}, {Integer.MIN_VALUE, 0, 0, -1000}, {Integer.MIN_VALUE + 5, 5, 5, -1000},
        };
        for (int[] row : due) {
            for (int sort = 0; sort < 3; sort++) {
                InkOfLetters x = new InkOfLetters();
                x.sheet(0, sort, 1);
                C.due("cell of " + row[0], x.cell(0, 0, row[0]), 1);
                C.due("sort " + sort + ", " + row[0], at(x, 0, 0), row[1 + sort]);
            }
        }
        C.of("promise 31: bytes, shorts below 0 and above");
        for (int sort = 0; sort < 3; sort++) {
            InkOfLetters x = new InkOfLetters();
            Checks.sheet(x, 0, sort, -128, 128, 127);
            Checks.sheet(x, 1, sort, 128, -128, -129);
            x.writer(0, 0, 0);
            x.writer(0, 0, 0);
            C.due("a letter in neither", x.post(0, 0), -1002);
            C.due("a letter in neither", x.post(1, 0), -1002);
            Checks.sheet(x, 0, sort, 1 + 256, 10 - 256, 1 + 65536);
            C.due("letters, sort " + sort, x.post(0, 0), sort == 0 ? 0 : -1002);
            Checks.sheet(x, 0, sort, 1 + 65536, 10 - 65536, 1 + 65536 * 256);
            C.due("letters, sort " + sort, x.post(0, 0), sort < 2 ? 0 : -1002);
        }
    }

    private static void cellPlaces() {
        C.of("promise 31: -12");
        for (int n : new int[] {0, 1, 3, 40}) {
            InkOfLetters x = new InkOfLetters();
            x.sheet(1, 2, n);
            for (int i = -2; i < n + 3; i++) {
                C.due("place " + i + " of " + n, x.cell(1, i, 5), i >= 0 && i < n ? 1 : -12);
            }
        }
        C.of("promise 31: one number alone becomes v");
        InkOfLetters x = new InkOfLetters();
        Checks.sheet(x, 0, 0, 1, 2, 3);
        Checks.sheet(x, 1, 0, 4, 5, 6);
        x.cell(0, 1, -9);
        row("the sheet", x, 0, 1, -9, 3);
        row("the other one", x, 1, 4, 5, 6);
    }

    private static void copies() {
        C.of("promise 32: n numbers of a SHEET, from i on, come to another one's place j: n");
        for (int sort = 0; sort < 3; sort++) {
            for (int i = 0; i <= 4; i++) {
                for (int n = 0; i + n <= 4; n++) {
                    for (int j = 0; j + n <= 5; j += 1) {
                        InkOfLetters x = new InkOfLetters();
                        Checks.sheet(x, 0, sort, 11, -12, 13, 14);
                        Checks.sheet(x, 1, sort, 21, 22, 23, -24, 25);
                        int[] from = {11, -12, 13, 14};
                        int[] to = {21, 22, 23, -24, 25};
                        C.due("copy(0, " + i + ", 1, " + j + ", " + n + ")", x.copy(0, i, 1, j, n), n);
                        System.arraycopy(from, i, to, j, n);
                        row("the other one", x, 1, to);
                        row("the one", x, 0, from);
                    }
                }
            }
        }
        C.of("promise 32: (or its own) place j (as they were)");
        for (int i = 0; i <= 5; i++) {
            for (int j = 0; j <= 5; j++) {
                for (int n = 0; n <= 5 - Math.max(i, j); n++) {
                    InkOfLetters x = new InkOfLetters();
                    Checks.sheet(x, 1, 2, 31, 32, 33, 34, 35);
                    int[] all = {31, 32, 33, 34, 35};
                    C.due("copy(1, " + i + ", 1, " + j + ", " + n + ")", x.copy(1, i, 1, j, n), n);
                    System.arraycopy(all, i, all, j, n);
                    row("its own", x, 1, all);
                }
            }
        }
    }

    private static void copyPlaces() {
        C.of("promise 32: -12 (n below 0, too)");
        for (int i = -1; i <= 5; i++) {
            for (int j = -1; j <= 4; j++) {
                for (int n = -2; n <= 5; n++) {
                    InkOfLetters x = new InkOfLetters();
                    x.sheet(0, 1, 4);
                    x.sheet(1, 1, 3);
                    boolean fits = n >= 0 && i >= 0 && j >= 0 && i + n <= 4 && j + n <= 3;
                    C.due("copy(0, " + i + ", 1, " + j + ", " + n + ")", x.copy(0, i, 1, j, n), fits ? n : -12);
                }
            }
        }
        C.of("promise 32: -12, far outside");
        int[] far = {Integer.MIN_VALUE, Integer.MIN_VALUE + 1, Integer.MAX_VALUE - 1, Integer.MAX_VALUE};
        InkOfLetters x = new InkOfLetters();
        x.sheet(0, 1, 40);
        for (int a : far) {
            for (int b : new int[] {0, 1, 40, a}) {
                C.due("copy i " + a + ", n " + b, x.copy(0, a, 0, 0, b), -12);
                C.due("copy j " + a + ", n " + b, x.copy(0, 0, 0, a, b), -12);
                C.due("copy n " + a + ", i " + b, x.copy(0, b, 0, 0, a), -12);
                C.due("copy n " + a + ", j " + b, x.copy(0, 0, 0, b, a), -12);
            }
        }
        C.due("all forty", x.copy(0, 0, 0, 0, 40), 40);
        C.due("41", x.copy(0, 0, 0, 0, 41), -12);
        C.of("promise 32: -13: unlike sorts");
        for (int sort = 0; sort < 3; sort++) {
            for (int other = 0; other < 3; other++) {
                x.sheet(0, sort, 1);
                x.sheet(1, other, 1);
                C.due("sorts " + sort + ", " + other, x.copy(0, 0, 1, 0, 1), sort == other ? 1 : -13);
            }
        }
    }

    private static void writersByThrees() {
        C.of("promise 33: from a place on, three by three (as of writer()), n of them: how many came");
        for (int sort = 0; sort < 3; sort++) {
            for (int from = 0; from < 3; from++) {
                for (int n = 0; n <= 3; n++) {
                    InkOfLetters x = new InkOfLetters();
                    x.sheet(1, sort, from + 9);
                    int[] threes = {59, -99, 99, 0, 99, 0, 23, -7, 1};
                    for (int i = 0; i < 9; i++) {
                        x.cell(1, from + i, threes[i]);
                    }
                    C.due("n " + n + " from " + from, x.writersBy(1, sort, from, n), n);
                    C.due("WRITERS", x.count(0), n);
                    for (int p = 0; p < n; p++) {
                        C.due("KIND", x.told(p, 2), threes[3 * p] / 10);
                        C.due("MORE", x.told(p, 3), threes[3 * p] % 10);
                        C.due("TONE", x.told(p, 0), threes[3 * p + 1]);
                        C.due("INK", x.told(p, 1), threes[3 * p + 2]);
                        C.due("MIXED", x.told(p, 4), 1 << p);
                    }
                }
            }
        }
        C.of("promise 33: others are left out");
        int[][] others = {{-1, 0, 0}, {60, 0, 0}, {0, -100, 0}, {0, 100, 0}, {0, 0, -1}, {0, 0, 100}};
        for (int[] other : others) {
            for (int where = 0; where < 3; where++) {
                InkOfLetters x = new InkOfLetters();
                x.sheet(0, 1, 9);
                for (int i = 0; i < 9; i++) {
                    x.cell(0, i, i / 3 == where ? other[i % 3] : i);
                }
                C.due("two of three", x.writersBy(0, 1, 0, 3), 2);
                C.due("WRITERS", x.count(0), 2);
                C.due("the first's TONE", x.told(0, 0), where == 0 ? 4 : 1);
                C.due("the second's TONE", x.told(1, 0), where == 2 ? 4 : 7);
            }
        }
    }

    private static void writersByRoom() {
        C.of("promise 33: n (0 .. 7); those that have no room are left out");
        for (int ahead = 0; ahead <= 7; ahead++) {
            InkOfLetters x = new InkOfLetters();
            for (int p = 0; p < ahead; p++) {
                x.writer(0, 50, 50);
            }
            x.sheet(0, 0, 21);
            C.due("seven to " + ahead, x.writersBy(0, 0, 0, 7), 7 - ahead);
            C.due("WRITERS", x.count(0), 7);
            C.due("no more", x.writersBy(0, 0, 0, 7), 0);
        }
        InkOfLetters x = new InkOfLetters();
        x.sheet(0, 2, 40);
        for (int n : new int[] {-1, 8, 9, Integer.MIN_VALUE, Integer.MAX_VALUE}) {
            C.due("n " + n, x.writersBy(0, 2, 0, n), -2);
        }
        C.due("none came", x.count(0), 0);
    }

    private static void writersByPlaces() {
        C.of("promise 33: -12: what stood ahead came");
        for (int size = 0; size <= 10; size++) {
            for (int from = 0; from <= size; from++) {
                for (int n = 1; n <= 4; n++) {
                    InkOfLetters x = new InkOfLetters();
                    x.sheet(2, 1, size);
                    int rooms = (size - from) / 3;
                    C.due("size " + size + ", from " + from + ", n " + n, x.writersBy(2, 1, from, n), n <= rooms ? n : -12);
                    C.due("WRITERS", x.count(0), Math.min(n, rooms));
                }
            }
        }
        C.of("promise 33: -12, though what stood ahead was left out");
        InkOfLetters x = new InkOfLetters();
        Checks.sheet(x, 0, 0, 60, 0, 0, 0);
        C.due("left out, then outside", x.writersBy(0, 0, 0, 2), -12);
        C.due("WRITERS", x.count(0), 0);
        for (int from : new int[] {-1, -2, -3, 2, 3, 4, 5, 40, Integer.MIN_VALUE, Integer.MAX_VALUE, Integer.MAX_VALUE - 2}) {
            C.due("from " + from, x.writersBy(0, 0, from, 1), -12);
            C.due("seven from " + from, x.writersBy(0, 0, from, 7), -12);
        }
        C.of("promise 33: BAD: SHEET, sort, n; -11; -13");
        C.due("SHEET -1", x.writersBy(-1, 0, 0, 0), -2);
        C.due("SHEET 4", x.writersBy(4, 0, 0, 0), -2);
        C.due("sort -1", x.writersBy(0, -1, 0, 0), -2);
        C.due("sort 3", x.writersBy(0, 3, 0, 0), -2);
        C.due("missing", x.writersBy(3, 0, 0, 0), -11);
        C.due("another sort", x.writersBy(0, 1, 0, 0), -13);
        C.due("another sort", x.writersBy(0, 2, 0, 0), -13);
        C.due("of its sort, none", x.writersBy(0, 0, 0, 0), 0);
    }

    private static void taken() {
        C.of("promise 34: a WRITER of that KIND (also of one that is one); 6 a TONE; -200, -1200, -1100, -1300");
        String[] is = {"0", "0 1", "0 2", "0 1 3", "0 2 4", "0 5"};
        for (int writers = 0; writers <= 7; writers++) {
            InkOfLetters x = new InkOfLetters();
            for (int p = 0; p < writers; p++) {
                x.writer((p + writers) % 6 * 10 + p, 7 * p - 40, 3);
            }
            for (int i = -1; i <= 14; i++) {
                for (int kind = -1; kind <= 7; kind++) {
                    boolean isKind = kind >= 0 && kind <= 6;
                    boolean isPlace = i >= 0 && i <= 13;
                    int p = i % 7;
                    int due = !isKind ? -200 : !isPlace ? -1200 : p >= writers ? -1100 : -1300;
                    if (due == -1300 && i >= 7 && kind == 6) {
                        due = 7 * p - 40;
                    } else if (due == -1300 && i < 7 && is[(p + writers) % 6].indexOf('0' + kind) >= 0) {
                        due = p;
                    }
                    C.due(writers + " WRITERS, taken(" + i + ", " + kind + ")", x.taken(i, kind), due);
                }
            }
        }
        C.of("promise 34: a TONE itself, however dark");
        for (int tone : new int[] {-99, -1, 0, 99}) {
            C.due("TONE " + tone, Checks.bureau(0, tone, 0).taken(7, 6), tone);
        }
    }
}
