/** The bounds that the terms tell, sentence by sentence: just inside and just outside each. */
public final class TermsTest {
    private static final Checks C = new Checks();
    private static final int MIN = Integer.MIN_VALUE;
    private static final int MAX = Integer.MAX_VALUE;

    public static void main(String[] args) {
        day();
        writers();
        kindAndMore();
        inkAndTone();
        writes();
        yields();
        costs();
        byKindInLetters();
        saysBounds();
        saysOfWhom();
        theTape();
        textsNumbers();
        can();
        costIsSpent();
        boils();
        yieldsIntoInk();
        mixes();
        toldAhead();
        seeds();
        sheets();
        C.end();
    }

    private static String plain(int boils, int yields, int costs) {
        return "boils " + boils + ";yields " + yields + ";costs " + costs + ";";
    }

    private static void day() {
        C.of("DAY (0 .. 999; 0 at first)");
        InkOfLetters x = new InkOfLetters();
        C.due("at first", x.count(1), 0);
        C.due("dawn(0)", x.dawn(0), 0);
        C.due("dawn(1)", x.dawn(1), 0);
        C.due("dawn(998)", x.dawn(998), 1);
        C.due("dawn(999)", x.dawn(999), 998);
        for (int v : new int[] {-1, 1000, MIN, MAX}) {
            C.due("dawn " + v, x.dawn(v), -2);
            C.due("DAY behind dawn " + v, x.count(1), 999);
        }
        x.writer(0, 0, 0);
        Checks.law(x, "boils 0;yields day-900;costs day-901;");
        C.due("day 999 as the text has it", x.asks(1, 0), 99);
        C.due("day 999 as the text has it", x.asks(2, 0), 98);
        x.dawn(0);
        Checks.law(x, "boils day;yields day+1;costs day=0;");
        C.due("day 0 as the text has it", x.asks(0, 0), 0);
        C.due("day 0 as the text has it", x.asks(1, 0), 1);
        C.due("day 0 as the text has it", x.asks(2, 0), 1);
    }

    private static void writers() {
        C.of("WRITERS are numbered from 0 on, 7 at most");
        InkOfLetters x = new InkOfLetters();
        for (int p = 0; p < 7; p++) {
            C.due("ahead of writer " + p, x.told(p, 0), -5000);
            C.due("writer " + p, x.writer(0, p, p), p);
            C.due("how many", x.count(0), p + 1);
            C.due("its tone", x.told(p, 0), p);
            C.due("MIXED as it comes: oneself", x.told(p, 4), 1 << p);
            C.due("in whose it is: its own", x.told(p, 8), 1 << p);
        }
        C.due("an eighth", x.writer(0, 0, 0), -4);
        C.due("how many", x.count(0), 7);
        C.due("told(7, 0)", x.told(7, 0), -5000);
    }

    private static void kindAndMore() {
        C.of("of a KIND, with MORE (0 .. 9)");
        for (int kindMore = 0; kindMore < 60; kindMore++) {
            InkOfLetters x = new InkOfLetters();
            C.due("writer of " + kindMore, x.writer(kindMore, 0, 0), 0);
            C.due("its KIND", x.told(0, 2), kindMore / 10);
            C.due("its MORE", x.told(0, 3), kindMore % 10);
        }
        InkOfLetters x = new InkOfLetters();
        for (int v : new int[] {-1, -9, -10, 60, 61, 69, 70, 100, MIN, MAX}) {
            C.due("writer of " + v, x.writer(v, 0, 0), -2);
        }
        C.due("none came", x.count(0), 0);
    }

    private static void inkAndTone() {
        C.of("INK (0 .. 99), TONE (-99 .. 99)");
        InkOfLetters x = new InkOfLetters();
        C.due("the least of both", x.writer(0, -99, 0), 0);
        C.due("the most of both", x.writer(0, 99, 99), 1);
        for (int v : new int[] {-100, 100, MIN, MAX}) {
            C.due("writer of tone " + v, x.writer(0, v, 0), -2);
            C.due("put tone " + v, x.put(0, 0, v), -7000);
            C.due("tone as it was", x.told(0, 0), -99);
        }
        for (int v : new int[] {-1, 100, MIN, MAX}) {
            C.due("writer of ink " + v, x.writer(0, 0, v), -2);
            C.due("put ink " + v, x.put(1, 1, v), -7000);
            C.due("ink as it was", x.told(1, 1), 99);
        }
        C.due("none came", x.count(0), 2);
        C.due("put tone 99", x.put(0, 0, 99), -99);
        C.due("put tone -99", x.put(0, 0, -99), 99);
        C.due("put ink 99", x.put(0, 1, 99), 0);
        C.due("put ink 0", x.put(0, 1, 0), 99);
        C.due("ink", x.told(0, 1), 0);
        C.due("tone", x.told(0, 0), -99);
    }

    /** Rows of KIND, MORE, TONE, and in which tone one writes. */
    private static void writes() {
        C.of("KINDS: in which tone one WRITES (-99 .. 99, else the bound)");
        int[][] due = {
            {0, 9, -99, -99}, {0, 9, -1, -1}, {0, 9, 0, 0}, {0, 9, 1, 1}, {0, 9, 99, 99},
            {1, 9, -1, -10}, {1, 9, 0, 9}, {1, 9, 1, 10}, {1, 0, -1, -1}, {1, 0, 0, 0},
            {1, 9, 89, 98}, {1, 9, 90, 99}, {1, 9, 91, 99}, {1, 9, 99, 99}, {1, 1, 98, 99}, {1, 1, 99, 99},
            {1, 9, -89, -98}, {1, 9, -90, -99}, {1, 9, -91, -99}, {1, 9, -99, -99}, {1, 1, -99, -99},
            {2, 9, 1, 0}, {2, 9, -1, 0}, {2, 9, 2, 1}, {2, 9, -2, -1}, {2, 9, 3, 1}, {2, 9, -3, -1},
            {2, 9, 0, 0}, {2, 9, 99, 49}, {2, 9, -99, -49},
            {3, 9, -1, -10}, {3, 9, 0, 9}, {3, 9, 90, 99}, {3, 9, 91, 99}, {3, 9, -90, -99}, {3, 9, -91, -99},
            {4, 9, 1, 0}, {4, 9, -1, 0}, {4, 9, 2, 1}, {4, 9, -2, 1}, {4, 9, 3, 1}, {4, 9, -3, 1},
            {4, 9, 0, 0}, {4, 9, 99, 49}, {4, 9, -99, 49},
            {5, 9, 99, -99}, {5, 9, -99, 99}, {5, 9, 0, 0}, {5, 9, 1, -1}, {5, 9, -1, 1},
        };
        for (int[] row : due) {
            InkOfLetters x = Checks.bureau(10 * row[0] + row[1], row[2], 50);
            C.due("KIND " + row[0] + ", MORE " + row[1] + ", TONE " + row[2], x.told(0, 5), row[3]);
        }
    }

    /** Rows of KIND, MORE, TONE, what the text says, and what one yields. */
    private static void yields() {
        C.of("KINDS: how much INK one YIELDS of a letter one gets");
        int[][] due = {
            {0, 9, 5, 0, 0}, {0, 9, -5, 99, 99}, {1, 9, 5, 50, 50}, {1, 9, -5, 50, 50},
            {2, 9, 5, 0, 9}, {2, 9, -5, 99, 108}, {2, 0, 5, 99, 99},
            {3, 9, -1, 50, 50}, {3, 9, -99, 99, 99}, {3, 9, 0, 50, 16}, {3, 9, 1, 50, 16}, {3, 9, 99, 99, 33},
            {3, 9, 0, 0, 0}, {3, 9, 0, 1, 0}, {3, 9, 0, 2, 0}, {3, 9, 0, 3, 1}, {3, 9, 0, 5, 1},
            {4, 9, 5, 0, 18}, {4, 9, -5, 99, 216}, {4, 0, 5, 1, 2}, {4, 1, 5, 0, 2},
            {5, 9, 5, 50, 50}, {5, 9, -5, 0, 0},
        };
        for (int[] row : due) {
            InkOfLetters x = Checks.bureau(10 * row[0] + row[1], row[2], 50);
            Checks.law(x, plain(70, row[3], 80));
            C.due("KIND " + row[0] + ", MORE " + row[1] + ", TONE " + row[2] + ", said " + row[3],
                    x.told(0, 6), row[4]);
        }
    }

    /** Rows of KIND, MORE, DAY, what the text says, and what a letter costs. */
    private static void costs() {
        C.of("KINDS: how much a letter one writes COSTS");
        int[][] due = {
            {0, 9, 0, 0, 0}, {0, 9, 5, 99, 99}, {1, 9, 0, 0, 0}, {1, 9, 5, 49, 98}, {1, 9, 5, 99, 198},
            {2, 9, 0, 50, 50}, {2, 9, 5, 99, 99},
            {3, 9, 0, 50, 1}, {3, 9, 0, 0, 1}, {3, 9, 1, 50, 100}, {3, 9, 4, 50, 100}, {3, 9, 5, 50, 1},
            {3, 9, 6, 50, 100}, {3, 9, 9, 50, 100}, {3, 9, 10, 50, 1}, {3, 9, 1, 0, 0}, {3, 9, 994, 99, 198},
            {3, 9, 995, 99, 1}, {3, 9, 999, 99, 198},
            {4, 9, 0, 50, 50}, {4, 9, 5, 99, 99},
            {5, 9, 0, 50, 9}, {5, 9, 5, 0, 9}, {5, 0, 3, 99, 0}, {5, 1, 4, 99, 1},
        };
        for (int[] row : due) {
            for (int tone = -5; tone <= 5; tone += 5) {
                InkOfLetters x = Checks.bureau(10 * row[0] + row[1], tone, 50);
                Checks.law(x, plain(70, 80, row[3]));
                x.dawn(row[2]);
                C.due("KIND " + row[0] + ", MORE " + row[1] + ", DAY " + row[2] + ", said " + row[3],
                        x.told(0, 7), row[4]);
            }
        }
    }

    /** Boils 100, yields 12, costs 6: rows of who writes to whom on which DAY, and what is then. */
    private static void byKindInLetters() {
        C.of("KINDS, in letters");
        int[][] due = {
            // kindMore, TONE, kindMore, TONE, DAY; INK of the one, TONE, INK of the other one
            {3, -31, 3, 40, 0, 44, -31, 52},
            {13, -31, 3, 40, 0, 38, -34, 52},
            {13, 31, 13, 40, 0, 38, 34, 52},
            {23, -31, 23, 40, 0, 44, -15, 55},
            {33, -31, 33, 40, 5, 49, -34, 44},
            {33, 31, 33, -1, 6, 38, 34, 52},
            {43, -31, 43, 40, 0, 44, 15, 70},
            {53, -31, 53, 40, 0, 47, 31, 52},
        };
        for (int[] row : due) {
            InkOfLetters x = Checks.bureau(row[0], row[1], 50, row[2], row[3], 40);
            Checks.law(x, plain(100, 12, 6));
            x.dawn(row[4]);
            String who = row[0] + " to " + row[2] + ": ";
            C.due(who + "TONE of the other one", x.write(0, 1), row[6]);
            C.due(who + "TONE of the one", x.told(0, 0), row[1]);
            C.due(who + "INK of the one", x.told(0, 1), row[5]);
            C.due(who + "INK of the other one", x.told(1, 1), row[7]);
        }
    }

    /** How much an E says, held at 0 and at 99, by yields; at 100, by boils. */
    private static void held(String e, int at99, int at100) {
        InkOfLetters x = Checks.bureau(0, 0, 0);
        Checks.law(x, "boils " + e + ";yields " + e + ";costs " + e + ";");
        C.due("boils " + e, x.asks(0, 0), at100);
        C.due("yields " + e, x.asks(1, 0), at99);
        C.due("costs " + e, x.asks(2, 0), at99);
        C.due("one yields", x.told(0, 6), at99);
        C.due("a letter costs", x.told(0, 7), at99);
    }

    private static void saysBounds() {
        C.of("boils 0 .. 100, yields, costs 0 .. 99, else the bound");
        held("-1", 0, 0);
        held("-9999", 0, 0);
        held("0", 0, 0);
        held("1", 1, 1);
        held("98", 98, 98);
        held("99", 99, 99);
        held("100", 99, 100);
        held("101", 99, 100);
        held("9999", 99, 100);
        C.of("an E is an int (32 bits, wrapping)");
        held("256*256*256*128-1", 99, 100);
        held("256*256*256*128", 0, 0);
        held("256*256*256*128-1+1", 0, 0);
        held("-256*256*256*128", 0, 0);
        held("-(256*256*256*128)", 0, 0);
        held("-(256*256*256*128)-1", 99, 100);
        held("256*256*256*256", 0, 0);
        held("256*256*256*256+7", 7, 7);
        held("256*256*256*255+256*256*256+8", 8, 8);
        held("not 256*256*256*256", 1, 1);
        held("256*256*256*128<0", 1, 1);
        held("256*256*256*128-1<0", 0, 0);
        held("256*256*256*128-1<256*256*256*128", 0, 0);
        held("256*256*256*128<256*256*256*128-1", 1, 1);
        held("256*256*256*128=-(256*256*256*128)", 1, 1);
        held("256*256*256 and 256*256*256*128", 1, 1);
        held("256*256*256*128 or 0", 1, 1);
        C.of("what a text says is held in its bounds ahead of what KINDS make of it");
        InkOfLetters x = Checks.bureau(29, 0, 0, 49, 0, 0, 30, 0, 0, 10, 0, 0);
        Checks.law(x, "boils 0;yields 120;costs 120;");
        C.due("a clerk yields 99 and 9", x.told(0, 6), 108);
        C.due("a bank yields twice that", x.told(1, 6), 216);
        C.due("a widow yields a third of 99", x.told(2, 6), 33);
        C.due("a lover's letter costs twice 99", x.told(3, 7), 198);
        Checks.law(x, "boils 0;yields -5;costs -5;");
        C.due("a clerk yields 0 and 9", x.told(0, 6), 9);
        C.due("a bank yields twice that", x.told(1, 6), 18);
        C.due("a widow yields a third of 0", x.told(2, 6), 0);
        C.due("a lover's letter costs twice 0", x.told(3, 7), 0);
        C.due("a widow's letter costs 1 on day 0", x.told(2, 7), 1);
    }

    private static void saysOfWhom() {
        C.of("of a WRITER: tone, ink, mixed, day, who, more");
        InkOfLetters x = Checks.bureau(9, -99, 99, 0, 99, 0, 5, -7, 50);
        Checks.law(x, "boils tone+99;yields ink;costs more;");
        int[][] due = {{0, 99, 9}, {100, 0, 0}, {92, 50, 5}};
        for (int p = 0; p < 3; p++) {
            for (int part = 0; part < 3; part++) {
                C.due("asks(" + part + ", " + p + ")", x.asks(part, p), due[p][part]);
            }
        }
        InkOfLetters y = new InkOfLetters();
        for (int p = 0; p < 7; p++) {
            y.writer(0, 0, 99);
        }
        Checks.law(y, "boils mixed;yields who;costs 1;");
        for (int p = 0; p < 7; p++) {
            C.due("how many are mixed in, of oneself alone", y.asks(0, p), 1);
            C.due("the number", y.asks(1, p), p);
        }
        for (int p = 0; p < 6; p++) {
            y.write(p, p + 1);
            C.due("how many are mixed in", y.asks(0, p + 1), p + 2);
        }
    }

    private static void theTape() {
        C.of("THE TAPE (160 bytes at most)");
        InkOfLetters x = new InkOfLetters();
        for (int i = 1; i <= 31; i++) {
            C.due("five more", x.feed(5, 32, 32, 32, 32, 32), 5 * i);
        }
        C.due("four to 155", x.feed(4, 32, 32, 32, 32, 32), 159);
        C.due("two to 159", x.feed(2, 32, 32, 32, 32, 32), -4);
        C.due("five to 159", x.feed(5, 32, 32, 32, 32, 32), -4);
        C.due("none came", x.count(5), 159);
        C.due("one to 159", x.feed(1, 32, 32, 32, 32, 32), 160);
        C.due("one to 160", x.feed(1, 32, 32, 32, 32, 32), -4);
        C.due("its bytes", x.count(5), 160);
        C.due("a text of 160 blanks ends too early", x.text(), -260);
        C.due("it is empty then", x.count(5), 0);
        C.due("five to none", x.feed(5, 32, 32, 32, 32, 32), 5);
        InkOfLetters y = new InkOfLetters();
        for (int i = 0; i < 31; i++) {
            y.feed(5, 32, 32, 32, 32, 32);
        }
        C.due("five to 155", y.feed(5, 32, 32, 32, 32, '5'), 160);
        C.due("the last byte is a fault's place", y.text(), -259);
    }

    private static void textsNumbers() {
        C.of("TEXTS are numbered from 0 on, 6 at most; TEXT 0, at first, and THE LAW");
        InkOfLetters x = Checks.bureau(0, 0, 0);
        C.due("TEXTS", x.count(3), 1);
        C.due("THE LAW", x.count(4), 0);
        C.due("boils", x.asks(0, 0), 50);
        C.due("yields", x.asks(1, 0), 20);
        C.due("costs", x.asks(2, 0), 10);
        for (int t = 1; t < 6; t++) {
            C.due("force ahead of text " + t, x.force(t), -2);
            C.due("text " + t, Checks.text(x, plain(t, 10 + t, 20 + t)), t);
            C.due("TEXTS", x.count(3), t + 1);
        }
        C.due("a seventh", Checks.text(x, plain(6, 6, 6)), -4);
        C.due("TEXTS", x.count(3), 6);
        C.due("force(6)", x.force(6), -2);
        for (int t = 0; t < 6; t++) {
            C.due("force(" + t + ")", x.force(t), Math.max(0, t - 1));
            C.due("THE LAW", x.count(4), t);
            C.due("boils", x.asks(0, 0), t == 0 ? 50 : t);
            C.due("yields", x.asks(1, 0), t == 0 ? 20 : 10 + t);
            C.due("costs", x.asks(2, 0), t == 0 ? 10 : 20 + t);
        }
        C.due("back to TEXT 0", x.force(0), 5);
        C.due("boils", x.asks(0, 0), 50);
    }

    /** Rows of what a letter costs, INK of the one, whether it can be written (1). */
    private static void can() {
        C.of("it CAN be written, if INK of the one is above 0, and what it COSTS, or more");
        int[][] due = {
            {0, 0, 0}, {0, 1, 1}, {1, 0, 0}, {1, 1, 1}, {1, 2, 1}, {10, 9, 0}, {10, 10, 1}, {10, 11, 1},
            {99, 98, 0}, {99, 99, 1},
        };
        for (int[] row : due) {
            InkOfLetters x = Checks.bureau(0, 40, row[1], 0, 0, 0);
            Checks.law(x, plain(50, 20, row[0]));
            String told = "costs " + row[0] + ", INK " + row[1];
            C.due(told, x.write(0, 1), row[2] == 1 ? 20 : -6000);
            C.due(told + ": INK then", x.told(0, 1), row[2] == 1 ? row[1] - row[0] : row[1]);
            C.due(told + ": INK of the other one", x.told(1, 1), row[2] == 1 ? 20 : 0);
            C.due(told + ": TONE of the other one", x.told(1, 0), row[2] == 1 ? 20 : 0);
            C.due(told + ": MIXED in the other one's", x.told(1, 4), row[2] == 1 ? 3 : 2);
        }
        InkOfLetters x = Checks.bureau(10, 40, 99, 0, 0, 0);
        Checks.law(x, plain(50, 20, 50));
        C.due("a lover's of 100, INK 99", x.write(0, 1), -6000);
        x.put(1, 1, 1);
        C.due("the other one's INK does not matter", x.write(0, 1), -6000);
    }

    private static void costIsSpent() {
        C.of("INK of the one is less by what it COSTS");
        InkOfLetters x = Checks.bureau(0, 0, 99, 0, 0, 0);
        Checks.law(x, plain(0, 0, 33));
        for (int left = 66; left >= 0; left -= 33) {
            C.due("a letter", x.write(0, 1), 0);
            C.due("INK left", x.told(0, 1), left);
        }
        C.due("one more", x.write(0, 1), -6000);
        C.due("costs as it says of the one", costsOf(1, 0), 98);
        C.due("costs as it says of the one", costsOf(0, 1), 99);
    }

    /** INK that is left of 99, a letter costing as much as one's number. */
    private static int costsOf(int a, int b) {
        InkOfLetters x = Checks.bureau(0, 0, 99, 0, 0, 99);
        Checks.law(x, "boils 0;yields 0;costs who;");
        x.write(a, b);
        return x.told(a, 1);
    }

    /** Rows of TONE of the one, TONE of the other one, what boils says, TONE then. */
    private static void boils() {
        C.of("TONE of the other one becomes .. by 100 (cut toward 0), cut once, of both together");
        int[][] due = {
            {99, -99, 0, -99}, {99, -99, 100, 99}, {99, -99, 1, -97}, {99, -99, 99, 97}, {99, -99, 50, 0},
            {-99, 99, 0, 99}, {-99, 99, 100, -99}, {-99, 99, 1, 97}, {-99, 99, 99, -97},
            {99, 99, 37, 99}, {-99, -99, 37, -99}, {0, 0, 37, 0},
            {1, 0, 99, 0}, {-1, 0, 99, 0}, {0, 1, 1, 0}, {0, -1, 1, 0},
            {1, 1, 50, 1}, {-1, -1, 50, -1}, {3, 1, 33, 1}, {3, 2, 50, 2}, {-3, -2, 50, -2},
            {1, 2, 1, 1}, {-1, -2, 1, -1}, {7, -7, 57, 0}, {-7, 7, 58, -1}, {7, -7, 58, 1},
        };
        for (int[] row : due) {
            InkOfLetters x = Checks.bureau(0, row[0], 50, 0, row[1], 50);
            Checks.law(x, plain(row[2], 0, 0));
            C.due(row[0] + " to " + row[1] + ", boils " + row[2], x.write(0, 1), row[3]);
            C.due("TONE of the one", x.told(0, 0), row[0]);
        }
        C.of("what boils says of the other one");
        InkOfLetters x = Checks.bureau(0, 80, 99, 0, 0, 99, 0, 0, 99);
        Checks.law(x, "boils who*25;yields 0;costs 0;");
        C.due("of 1", x.write(0, 1), 20);
        C.due("of 2", x.write(0, 2), 40);
        C.due("of 0", x.write(1, 0), 80);
    }

    /** Rows of INK, what yields says, INK then. */
    private static void yieldsIntoInk() {
        C.of("INK of the other one is more by what that one YIELDS (99 at most)");
        int[][] due = {
            {0, 0, 0}, {0, 99, 99}, {1, 98, 99}, {1, 99, 99}, {50, 48, 98}, {50, 49, 99}, {50, 50, 99},
            {99, 0, 99}, {99, 1, 99}, {99, 99, 99},
        };
        for (int[] row : due) {
            InkOfLetters x = Checks.bureau(0, 0, 99, 0, 0, row[0]);
            Checks.law(x, plain(0, row[1], 0));
            x.write(0, 1);
            C.due("INK " + row[0] + ", yields " + row[1], x.told(1, 1), row[2]);
        }
        InkOfLetters x = Checks.bureau(0, 0, 99, 49, 0, 0);
        Checks.law(x, plain(0, 99, 0));
        x.write(0, 1);
        C.due("a bank's 216", x.told(1, 1), 99);
        InkOfLetters y = Checks.bureau(0, 0, 50, 0, 0, 10);
        Checks.law(y, "boils 0;yields 5*who;costs 0;");
        y.write(0, 1);
        C.due("as it says of the other one", y.told(1, 1), 15);
    }

    private static void mixes() {
        C.of("all who are MIXED in the one's are MIXED in the other's, too");
        InkOfLetters x = new InkOfLetters();
        for (int p = 0; p < 7; p++) {
            x.writer(0, 0, 99);
        }
        x.write(6, 5);
        x.write(5, 0);
        x.write(0, 3);
        x.write(1, 0);
        int[] mixed = {1 + 2 + 32 + 64, 2, 4, 1 + 8 + 32 + 64, 16, 32 + 64, 64};
        int[] inWhose = {1 + 8, 1 + 2, 4, 8, 16, 1 + 8 + 32, 1 + 8 + 32 + 64};
        for (int p = 0; p < 7; p++) {
            C.due("MIXED of " + p, x.told(p, 4), mixed[p]);
            C.due("in whose is " + p, x.told(p, 8), inWhose[p]);
        }
    }

    private static void toldAhead() {
        C.of("all told ahead");
        InkOfLetters x = Checks.bureau(5, 60, 40, 31, 10, 20);
        Checks.law(x, "boils 50;yields tone;costs ink;");
        C.due("TONE then", x.write(0, 1), 35);
        C.due("costs as of INK ahead", x.told(0, 1), 0);
        C.due("yields as of TONE ahead, a third of 10", x.told(1, 1), 23);
        InkOfLetters y = Checks.bureau(0, -60, 40, 31, 10, 20);
        Checks.law(y, plain(100, 30, 0));
        y.write(0, 1);
        C.due("a widow light ahead yields a third, though dark then", y.told(1, 1), 30);
        y.put(1, 1, 20);
        y.put(0, 0, 60);
        y.write(0, 1);
        C.due("a widow dark ahead yields all, though light then", y.told(1, 1), 50);
        InkOfLetters z = Checks.bureau(0, 60, 40, 0, 0, 50);
        Checks.law(z, "boils 2*ink;yields 9;costs 0;");
        C.due("boils as of INK ahead", z.write(0, 1), 60);
        z.put(1, 1, 10);
        C.due("boils as of INK ahead", z.write(0, 1), 60);
        z.put(1, 0, 0);
        z.put(1, 1, 10);
        C.due("boils as of INK ahead", z.write(0, 1), 12);
        InkOfLetters w = Checks.bureau(0, 60, 40, 0, 0, 0);
        Checks.law(w, "boils 50;yields 10*mixed;costs 0;");
        w.write(0, 1);
        C.due("yields as of who is MIXED in ahead", w.told(1, 1), 10);
        w.write(0, 1);
        C.due("yields as of who is MIXED in ahead", w.told(1, 1), 30);
    }

    private static void seeds() {
        C.of("n LETTERS by a SEED are n times two LOTS, those by which none is written counted");
        InkOfLetters x = Checks.bureau(0, 0, 99, 0, 50, 99);
        Checks.law(x, plain(100, 0, 0));
        int[] written = new int[61];
        long lot = 1;
        for (int i = 1; i <= 60; i++) {
            lot = lot * 48271 % 2147483647;
            long a = lot % 7;
            lot = lot * 48271 % 2147483647;
            long b = lot % 7;
            written[i] = written[i - 1] + (a < 2 && b < 2 && a != b ? 1 : 0);
        }
        for (int n = 0; n <= 60; n++) {
            C.due("written of " + n, x.drawn(0, n, 1), written[n]);
        }
        C.due("not all, not none", written[60] > 0 && written[60] < 60 ? 1 : 0, 1);
    }

    private static void sheets() {
        C.of("SHEETS 0 .. 3 are rows of numbers, or missing (as all are at first), 40 at most");
        InkOfLetters x = new InkOfLetters();
        for (int s = 0; s < 4; s++) {
            C.due("missing", x.cell(s, 0, 0), -11);
        }
        for (int sort = 0; sort < 3; sort++) {
            for (int n : new int[] {0, 1, 39, 40}) {
                C.due("sheet of " + n, x.sheet(0, sort, n), 1);
                C.due("behind its last", x.cell(0, n, 1), -12);
                C.due("its last", x.cell(0, n - 1, 1), n == 0 ? -12 : 1);
            }
        }
    }
}
