/** Promises 2 to 19, sentence by sentence: the edges that the terms' own tests leave. */
public final class CallsTest {
    private static final Checks C = new Checks();
    private static final long NO = -4611686018427387904L;

    public static void main(String[] args) {
        count();
        feed();
        asks();
        told();
        firstTold();
        writeAnswers();
        borrowHowMuch();
        borrowTone();
        borrowMixes();
        waterHowMuch();
        postTells();
        postInItsOrder();
        deliver();
        whomFirst();
        whomCan();
        chainWays();
        chainOnItsWay();
        chainOfSeven();
        who();
        mean();
        C.end();
    }

    private static String plain(int boils, int yields, int costs) {
        return "boils " + boils + ";yields " + yields + ";costs " + costs + ";";
    }

    private static InkOfLetters lawful(InkOfLetters x, int boils, int yields, int costs) {
        Checks.law(x, plain(boils, yields, costs));
        return x;
    }

    private static void count() {
        C.of("promise 2: INK of all, together");
        InkOfLetters x = new InkOfLetters();
        C.due("of nobody", x.count(2), 0);
        for (int p = 1; p <= 7; p++) {
            x.writer(0, -99, 99);
            C.due("of " + p, x.count(2), 99 * p);
        }
        x.put(6, 1, 0);
        C.due("of six", x.count(2), 594);
        C.of("promise 2: bytes of THE TAPE");
        C.due("none", x.count(5), 0);
        x.feed(1, 'b', 1, 2, 3, 4);
        C.due("one of five", x.count(5), 1);
        x.feed(5, 1, 2, 3, 4, 5);
        C.due("five more", x.count(5), 6);
        x.feed(6, 1, 2, 3, 4, 5);
        C.due("refused", x.count(5), 6);
    }

    private static void feed() {
        C.of("promise 4: the first n (1 .. 5) of five bytes");
        String text = plain(31, 32, 33);
        for (int n = 1; n <= 5; n++) {
            InkOfLetters x = Checks.bureau(0, 0, 0);
            for (int i = 0; i < text.length(); i += n) {
                int[] five = {'!', '!', '!', '!', '!'};
                int many = Math.min(n, text.length() - i);
                for (int k = 0; k < many; k++) {
                    five[k] = text.charAt(i + k);
                }
                C.due("how many it has", x.feed(many, five[0], five[1], five[2], five[3], five[4]), i + many);
            }
            C.due("by " + n, x.text(), 1);
            x.force(1);
            C.due("boils", x.asks(0, 0), 31);
            C.due("costs", x.asks(2, 0), 33);
        }
        C.of("promise 4: FULL: they have not all room (none comes)");
        for (int room = 0; room < 5; room++) {
            InkOfLetters x = new InkOfLetters();
            Checks.feed(x, text + " ".repeat(160 - room - text.length()));
            for (int n = room + 1; n <= 5; n++) {
                C.due(n + " where there is room for " + room, x.feed(n, '!', '!', '!', '!', '!'), -4);
                C.due("bytes", x.count(5), 160 - room);
            }
            if (room > 0) {
                C.due("as many as there is room for", x.feed(room, 32, 32, 32, 32, 32), 160);
            }
            C.due("none of them came", x.text(), 1);
        }
        C.of("promise 4: BAD: n, any of the five (also of those that do not come)");
        InkOfLetters x = new InkOfLetters();
        C.due("the second, n 1", x.feed(1, 0, 256, 0, 0, 0), -2);
        C.due("the fifth, n 4", x.feed(4, 0, 0, 0, 0, -1), -2);
        C.due("bytes", x.count(5), 0);
        C.due("0 and 255", x.feed(2, 0, 255, 255, 0, 255), 2);
        C.due("the first of them is no blank", x.text(), -100);
    }

    private static void asks() {
        C.of("promise 7: -1000: none such");
        InkOfLetters x = new InkOfLetters();
        C.due("asks(0, 0) of nobody", x.asks(0, 0), -1000);
        x.writer(0, 0, 0);
        C.due("asks(0, 0)", x.asks(0, 0), 50);
        C.due("asks(2, 0)", x.asks(2, 0), 10);
        C.due("asks(3, 0)", x.asks(3, 0), -1000);
        C.due("asks(-1, 0)", x.asks(-1, 0), -1000);
        C.due("asks(0, 1)", x.asks(0, 1), -1000);
        C.due("asks(0, -1)", x.asks(0, -1), -1000);
        C.due("asks(3, 1)", x.asks(3, 1), -1000);
    }

    private static void told() {
        C.of("promise 10: what 0 .. 8");
        InkOfLetters x = Checks.bureau(49, -81, 7, 12, 33, 66);
        x.borrow(0, 1);
        int[][] due = {{-33, 12, 4, 9, 3, 16, 58, 10, 1}, {33, 61, 1, 2, 2, 35, 20, 20, 3}};
        for (int p = 0; p < 2; p++) {
            for (int what = 0; what <= 8; what++) {
                C.due("told(" + p + ", " + what + ")", x.told(p, what), due[p][what]);
            }
            C.due("told(" + p + ", 9)", x.told(p, 9), -7000);
            C.due("told(" + p + ", -1)", x.told(p, -1), -7000);
        }
    }

    private static void firstTold() {
        C.of("refusals, of several the first one told");
        InkOfLetters x = Checks.bureau(0, 0, 0, 0, 0, 99);
        C.due("put: none such, what", x.put(2, 2, 0), -5000);
        C.due("put: none such, v", x.put(2, 0, 100), -5000);
        C.due("told: none such, what", x.told(2, 9), -5000);
        C.due("write: one and the same, can't", x.write(0, 0), -5000);
        C.due("write: no such, can't", x.write(0, 2), -5000);
        C.due("water: none such, much", x.water(2, -1), -5000);
        C.due("water: none such, much", x.water(-1, 100), -5000);
        C.due("post: SHEET, what", x.post(4, 99), -1002);
        C.due("post: missing, what", x.post(0, 99), -1011);
        Checks.sheet(x, 0, 0, 2);
        C.due("post: no LETTER, what", x.post(0, 99), -1002);
        C.due("whom: none such, what", x.whom(2, 2), -5000);
        C.due("whom: what, can't", x.whom(0, 2), -7000);
        C.due("chain: one and the same, letters, what", x.chain(0, 0, 0, 2), -5000);
        C.due("chain: no such, letters", x.chain(0, 2, 5, 0), -5000);
        C.due("chain: letters, none", x.chain(0, 1, 5, 0), -7000);
        C.due("chain: what, none", x.chain(0, 1, 1, 2), -7000);
        C.due("mean: part, none", new InkOfLetters().mean(2), NO);
        C.due("sheet: SHEET, n below 0", x.sheet(4, 0, -1), -2);
        C.due("sheet: sort, n below 0", x.sheet(0, 3, -1), -2);
        C.due("sheet: SHEET, missing", x.sheet(4, -1, 0), -2);
        C.due("cell: SHEET, place", x.cell(4, -1, 0), -2);
        C.due("cell: missing, place", x.cell(1, -1, 0), -11);
        C.due("copy: SHEETS, missing", x.copy(1, 0, 4, 0, 1), -2);
        C.due("copy: missing, place", x.copy(0, -1, 1, 0, 1), -11);
        x.sheet(1, 1, 1);
        C.due("copy: unlike sorts, place", x.copy(0, -1, 1, 5, -1), -13);
        C.due("writersBy: sort, another sort", x.writersBy(0, 3, 0, 1), -2);
        C.due("writersBy: n, missing", x.writersBy(2, 0, 0, 8), -2);
        C.due("writersBy: sort, missing", x.writersBy(2, -1, 0, 1), -2);
        C.due("writersBy: missing, place", x.writersBy(2, 0, -1, 1), -11);
        C.due("writersBy: another sort, place", x.writersBy(0, 1, -1, 1), -13);
        C.due("taken: kind, i", x.taken(14, 7), -200);
        C.due("taken: kind, none such", x.taken(2, -1), -200);
        C.due("taken: none such, of another KIND", x.taken(2, 5), -1100);
        C.due("taken: none such, of another sort", x.taken(2, 6), -1100);
        C.due("taken: none such, of another sort", x.taken(9, 0), -1100);
        C.due("film: SHEET told, missing", x.film(2, 4, 0), -2);
        C.due("film: one and the same, missing", x.film(2, 2, 0), -2);
        C.due("film: one and the same, none such", x.film(0, 0, 2), -2);
        C.due("film: SHEET s, none such", x.film(4, 0, 2), -2);
        C.due("film: missing, none such", x.film(2, 0, 2), -11);
        C.due("film: no POST, none such", x.film(0, 1, 2), -2);
    }

    private static void writeAnswers() {
        C.of("promise 11: truly: TONE of the other one then");
        InkOfLetters x = Checks.bureau(0, 99, 99, 0, -99, 0);
        int[] tones = {0, 49, 74, 86, 92, 95, 97, 98, 98};
        for (int i = 0; i < tones.length; i++) {
            C.due("letter " + i, x.write(0, 1), tones[i]);
            C.due("TONE", x.told(1, 0), tones[i]);
            C.due("INK", x.told(1, 1), Math.min(99, 20 * (i + 1)));
            C.due("INK of the one", x.told(0, 1), 89 - 10 * i);
        }
        C.due("INK 9", x.write(0, 1), -6000);
        C.of("promise 11: -5000: no such two, one and the same");
        C.due("write(0, 2)", x.write(0, 2), -5000);
        C.due("write(2, 0)", x.write(2, 0), -5000);
        C.due("write(-1, 0)", x.write(-1, 0), -5000);
        C.due("write(0, -1)", x.write(0, -1), -5000);
        C.due("write(1, 1)", x.write(1, 1), -5000);
        C.due("write(2, 2)", x.write(2, 2), -5000);
    }

    /** Rows of INK of a, INK of b, how much comes. */
    private static void borrowHowMuch() {
        C.of("promise 12: by 5, or by as much as b has, or as there is room for (99), if that is less");
        int[][] due = {
            {0, 0, 0}, {0, 1, 1}, {0, 4, 4}, {0, 5, 5}, {0, 6, 5}, {0, 99, 5}, {93, 99, 5}, {94, 99, 5},
            {95, 99, 4}, {98, 99, 1}, {99, 99, 0}, {99, 0, 0}, {98, 0, 0}, {96, 2, 2}, {97, 3, 2}, {96, 3, 3},
        };
        for (int[] row : due) {
            InkOfLetters x = Checks.bureau(0, 40, row[0], 0, -40, row[1]);
            String told = "INK " + row[0] + " of " + row[1];
            C.due(told, x.borrow(0, 1), row[0] + row[2]);
            C.due(told + ": INK of a", x.told(0, 1), row[0] + row[2]);
            C.due(told + ": INK of b", x.told(1, 1), row[1] - row[2]);
            C.due(told + ": TONE of b", x.told(1, 0), -40);
            C.due(told + ": MIXED of a", x.told(0, 4), row[2] > 0 ? 3 : 1);
            C.due(told + ": MIXED of b", x.told(1, 4), 2);
        }
        C.of("promise 12: nothing is asked of what a letter costs, or of KINDS");
        InkOfLetters x = lawful(Checks.bureau(59, 40, 10, 19, -40, 10), 0, 0, 99);
        C.due("a forger of a lover", x.borrow(0, 1), 15);
        C.due("TONE: (400 - 200) / 15", x.told(0, 0), 13);
    }

    /** Rows of TONE and INK of a, TONE and INK of b, TONE of a then. */
    private static void borrowTone() {
        C.of("promise 12: TONE of a (cut toward 0; no INK: as it was)");
        int[][] due = {
            {50, 0, -40, 0, 50}, {-50, 0, 40, 0, -50}, {50, 0, -40, 5, -40}, {50, 0, -40, 1, -40},
            {50, 99, -40, 9, 50}, {50, 7, -40, 0, 50}, {99, 94, 99, 99, 99}, {-99, 94, -99, 99, -99},
            {99, 94, -99, 99, 89}, {-99, 94, 99, 99, -89}, {1, 10, 0, 5, 0}, {-1, 10, 0, 5, 0},
            {2, 10, 1, 5, 1}, {-2, 10, -1, 5, -1}, {99, 1, -99, 5, -66}, {-99, 1, 99, 5, 66},
            {50, 98, -40, 99, 49}, {0, 5, 9, 5, 4}, {0, 5, -9, 5, -4},
        };
        for (int[] row : due) {
            InkOfLetters x = Checks.bureau(0, row[0], row[1], 0, row[2], row[3]);
            x.borrow(0, 1);
            C.due("TONE " + row[0] + " of INK " + row[1] + ", TONE " + row[2] + " of INK " + row[3],
                    x.told(0, 0), row[4]);
        }
    }

    private static void borrowMixes() {
        C.of("promise 12: all who are MIXED in b's are MIXED in a's, too");
        InkOfLetters x = new InkOfLetters();
        for (int p = 0; p < 7; p++) {
            x.writer(0, 0, 20);
        }
        x.write(6, 5);
        x.borrow(4, 5);
        C.due("of two", x.told(4, 4), 16 + 32 + 64);
        x.borrow(0, 4);
        C.due("of three", x.told(0, 4), 1 + 16 + 32 + 64);
        C.due("in whose 6 is", x.told(6, 8), 1 + 16 + 32 + 64);
        x.borrow(4, 3);
        C.due("one more, those as they were", x.told(4, 4), 8 + 16 + 32 + 64);
        C.due("no more of 0's", x.told(0, 4), 1 + 16 + 32 + 64);
        C.due("b's as it was", x.told(3, 4), 8);
        C.due("no DAY has passed", x.count(1), 0);
    }

    /** Rows of TONE, INK, how much water, TONE then (or what is refused). */
    private static void waterHowMuch() {
        C.of("promise 13: -7000: much is below 0, or INK would be above 99");
        int[][] due = {
            {50, 0, 0, 50}, {50, 0, 1, 0}, {50, 0, 99, 0}, {50, 0, 100, -7000}, {50, 0, -1, -7000},
            {-50, 0, 0, -50}, {50, 99, 0, 50}, {50, 99, 1, -7000}, {50, 98, 1, 49}, {50, 98, 2, -7000},
            {50, 1, 98, 0}, {50, 1, 99, -7000}, {50, 10, 89, 5}, {-50, 10, 89, -5}, {50, 10, 90, -7000},
            {99, 50, 49, 50}, {-99, 50, 49, -50}, {1, 50, 1, 0}, {-1, 50, 1, 0}, {99, 1, 1, 49}, {-99, 1, 1, -49},
        };
        for (int[] row : due) {
            InkOfLetters x = Checks.bureau(0, row[0], row[1]);
            String told = "TONE " + row[0] + ", INK " + row[1] + ", " + row[2] + " more";
            C.due(told, x.water(0, row[2]), row[3]);
            C.due(told + ": TONE", x.told(0, 0), row[3] == -7000 ? row[0] : row[3]);
            C.due(told + ": INK", x.told(0, 1), row[3] == -7000 ? row[1] : row[1] + row[2]);
            C.due(told + ": MIXED", x.told(0, 4), 1);
        }
    }

    private static void postTells() {
        C.of("promise 14: what 0 .. 3, 10 .. 16, 20 .. 26 alone, of WRITERS that are there");
        for (int writers = 0; writers <= 7; writers++) {
            InkOfLetters x = new InkOfLetters();
            for (int p = 0; p < writers; p++) {
                x.writer(0, 3 * p - 9, 5 + p);
            }
            x.sheet(0, writers % 3, 0);
            int tones = 0;
            int inks = 0;
            for (int p = 0; p < writers; p++) {
                tones += 3 * p - 9;
                inks += 5 + p;
            }
            C.due("written of none", x.post(0, 0), 0);
            C.due("the first that can't, of none", x.post(0, 1), -1);
            C.due("TONE of all", x.post(0, 2), tones);
            C.due("INK of all", x.post(0, 3), inks);
            for (int p = 0; p < 8; p++) {
                C.due("TONE of " + p + " of " + writers, x.post(0, 10 + p), p < writers ? 3 * p - 9 : -7000);
                C.due("MIXED of " + p + " of " + writers, x.post(0, 20 + p), p < writers ? 1 << p : -7000);
            }
            for (int what : new int[] {-2, -1, 4, 5, 8, 9, 17, 18, 19, 27, 28, 30, 36, 100}) {
                C.due("what " + what, x.post(0, what), -7000);
            }
        }
        C.of("promise 14: -1002: it tells what is no LETTER of two that are there");
        for (int v = -128; v < 128; v++) {
            InkOfLetters x = Checks.bureau(0, 0, 50, 0, 0, 50, 0, 0, 50);
            Checks.sheet(x, 0, 0, 1, v, 1);
            boolean isLetter = v == 1 || v == 2 || v == 10 || v == 12 || v == 20 || v == 21;
            C.due("a letter " + v, x.post(0, 0), isLetter ? 3 : -1002);
        }
        C.of("promise 14: a LETTER of seven that are there");
        InkOfLetters y = new InkOfLetters();
        for (int p = 0; p < 7; p++) {
            y.writer(0, 0, 10);
        }
        for (int v : new int[] {6, 60, 65, 56, 16, 61}) {
            Checks.sheet(y, 0, 1, v);
            C.due("a letter " + v, y.post(0, 0), 1);
        }
        for (int v : new int[] {7, 8, 9, 17, 67, 69, 66, 70, 76, 71, 80, 107, 600}) {
            Checks.sheet(y, 0, 1, v);
            C.due("no letter " + v, y.post(0, 0), -1002);
        }
        C.of("promise 14: -1002 of a LETTER that stands behind others, though these can't be written");
        InkOfLetters z = Checks.bureau(0, 0, 0, 0, 0, 0);
        z.sheet(0, 0, 40);
        for (int i = 0; i < 40; i++) {
            C.due("40 of them, " + i + " told", z.post(0, 0), -1002);
            z.cell(0, i, 1 + i % 2 * 9);
        }
        C.due("all told, none can be written", z.post(0, 0), 0);
        C.due("the first that can't", z.post(0, 1), 0);
    }

    private static void postInItsOrder() {
        C.of("LETTERS, one behind the other; those that CAN'T be written are left out");
        InkOfLetters x = lawful(Checks.bureau(0, 80, 10, 0, 0, 0, 0, 0, 0), 100, 10, 10);
        Checks.sheet(x, 0, 0, 1, 12, 20);
        int[] due = {3, -1, 240, 10};
        for (int what = 0; what < 4; what++) {
            C.due("what " + what, x.post(0, what), due[what]);
        }
        Checks.sheet(x, 0, 0, 20, 12, 1, 1, 12, 12, 20);
        due = new int[] {3, 0, 240, 10};
        for (int what = 0; what < 4; what++) {
            C.due("what " + what, x.post(0, what), due[what]);
        }
        int[] mixed = {7, 3, 7};
        for (int p = 0; p < 3; p++) {
            C.due("TONE of " + p, x.post(0, 10 + p), 80);
            C.due("MIXED of " + p, x.post(0, 20 + p), mixed[p]);
        }
        Checks.sheet(x, 0, 0, 1, 12, 21, 10, 1, 1);
        C.due("the sixth can't", x.post(0, 1), 5);
        Checks.sheet(x, 0, 0, 1, 12, 21, 10, 1);
        C.due("none can't", x.post(0, 1), -1);
    }

    private static void deliver() {
        C.of("promise 15: truly, and DAY is 1 more; STATE: DAY is 999");
        for (int day : new int[] {0, 1, 997, 998, 999}) {
            InkOfLetters x = lawful(Checks.bureau(0, 80, 15, 0, 0, 0), 100, 5, 10);
            Checks.sheet(x, 0, 2, 1, 1, 10);
            x.dawn(day);
            boolean can = day < 999;
            C.due("on DAY " + day, x.deliver(0), can ? 1 : -3);
            C.due("DAY then", x.count(1), can ? day + 1 : 999);
            C.due("TONE of the other one", x.told(1, 0), can ? 80 : 0);
            C.due("INK of the one", x.told(0, 1), can ? 5 : 15);
            C.due("INK of the other one", x.told(1, 1), can ? 5 : 0);
        }
        C.of("promise 15: a POST of none");
        InkOfLetters x = new InkOfLetters();
        x.sheet(3, 1, 0);
        C.due("how many", x.deliver(3), 0);
        C.due("DAY", x.count(1), 1);
        C.of("promise 15: all LETTERS are of the DAY ahead");
        InkOfLetters y = lawful(Checks.bureau(30, 9, 40, 0, 0, 0), 0, 0, 10);
        Checks.sheet(y, 0, 2, 1, 1, 1);
        y.dawn(4);
        C.due("two of 20 each", y.deliver(0), 2);
        y.put(0, 1, 40);
        C.due("DAY", y.count(1), 5);
        C.due("three of 1 each", y.deliver(0), 3);
        C.due("INK", y.told(0, 1), 37);
    }

    private static void whomFirst() {
        C.of("promise 16: so that TONE of all is most, together, of like ones the first");
        InkOfLetters x = Checks.bureau(0, 40, 50, 0, 40, 50, 0, 20, 50, 0, 0, 50, 0, 0, 50);
        C.due("the first of the darkest", x.whom(0, 0), 3);
        C.due("TONE of all then", x.whom(0, 1), 120);
        x.put(4, 0, -2);
        C.due("the darkest", x.whom(0, 0), 4);
        C.due("TONE of all then", x.whom(0, 1), 119);
        C.due("of 4: nobody is the better for it, the first", x.whom(4, 0), 3);
        C.due("TONE of all then", x.whom(4, 1), 97);
        x = Checks.bureau(0, 7, 50, 0, 7, 50, 0, 7, 50);
        C.due("all alike", x.whom(0, 0), 1);
        C.due("all alike", x.whom(1, 0), 0);
        C.due("all alike", x.whom(2, 0), 0);
        C.due("TONE of all then", x.whom(2, 1), 21);
        C.of("promise 16: one whose letter makes all darker writes nevertheless");
        x = Checks.bureau(0, -99, 50, 0, 99, 50, 0, 90, 50);
        C.due("whom", x.whom(0, 0), 2);
        C.due("TONE of all then", x.whom(0, 1), -4);
        x = Checks.bureau(0, -99, 50, 0, 99, 50);
        C.due("only one", x.whom(0, 0), 1);
        C.due("TONE of all then", x.whom(0, 1), -99);
    }

    private static void whomCan() {
        C.of("promise 16: -1: one CAN'T, or nobody is; that: as all is, then");
        InkOfLetters x = new InkOfLetters();
        x.writer(0, -5, 99);
        C.due("nobody else", x.whom(0, 0), -1);
        C.due("TONE of all", x.whom(0, 1), -5);
        x.writer(0, 50, 9);
        C.due("INK 9 of 10", x.whom(1, 0), -1);
        C.due("TONE of all", x.whom(1, 1), 45);
        x.put(1, 1, 10);
        C.due("INK 10 of 10", x.whom(1, 0), 0);
        C.due("TONE of all", x.whom(1, 1), 72);
        x.put(1, 1, 0);
        Checks.law(x, plain(50, 0, 0));
        C.due("no INK", x.whom(1, 0), -1);
        C.due("TONE of all", x.whom(1, 1), 45);
        x.put(1, 1, 1);
        C.due("INK 1 of 0", x.whom(1, 0), 0);
    }

    private static void chainWays() {
        C.of("promise 17: by 1 .. letters (1 .. 4) LETTERS");
        InkOfLetters x = lawful(Checks.bureau(10, 1, 99, 11, 0, 99, 12, 0, 99, 13, 0, 99, 14, 0, 99, 0, 0, 99),
                100, 0, 1);
        int[] ways = {16, 156, 1456, 13456};
        int[] tones = {1, 5, 8, 10};
        for (int letters = 1; letters <= 4; letters++) {
            C.due("way of " + letters, x.chain(0, 5, letters, 0), ways[letters - 1]);
            C.due("TONE of " + letters, x.chain(0, 5, letters, 1), tones[letters - 1]);
        }
        C.due("letters 0", x.chain(0, 5, 0, 0), -7000);
        C.due("letters 5", x.chain(0, 5, 5, 0), -7000);
        C.due("letters -1", x.chain(0, 5, -1, 1), -7000);
        C.of("promise 17: fewer LETTERS, if more would be for the worse");
        x = lawful(Checks.bureau(0, 60, 99, 0, 0, 99, 0, 0, 99), 50, 0, 1);
        C.due("straight", x.chain(0, 2, 4, 0), 13);
        C.due("TONE", x.chain(0, 2, 4, 1), 30);
    }

    private static void chainOnItsWay() {
        C.of("promise 17: each of which CAN be written then, by the INK of the LETTER ahead");
        InkOfLetters x = lawful(Checks.bureau(0, 50, 10, 19, 0, 0, 0, 0, 0), 100, 20, 10);
        C.due("a friend without INK boils it", x.chain(0, 2, 2, 0), 123);
        C.due("TONE", x.chain(0, 2, 2, 1), 59);
        x = lawful(Checks.bureau(0, 50, 10, 19, 0, 0, 0, 0, 0), 100, 19, 10);
        C.due("19 of 20 are not enough", x.chain(0, 2, 2, 0), 13);
        C.due("TONE", x.chain(0, 2, 2, 1), 50);
        C.of("promise 17: -1: none; -1000: none");
        x = lawful(Checks.bureau(0, 50, 9, 0, 0, 99, 0, 0, 99), 100, 20, 10);
        C.due("the first can't", x.chain(0, 2, 4, 0), -1);
        C.due("TONE of none", x.chain(0, 2, 4, 1), -1000);
        x.put(0, 1, 10);
        C.due("the first can", x.chain(0, 2, 1, 1), 50);
        C.of("promise 17: TONE of b as far down as can be");
        x = lawful(Checks.bureau(0, -99, 99, 0, -99, 99), 100, 0, 1);
        C.due("way", x.chain(0, 1, 4, 0), 12);
        C.due("TONE", x.chain(0, 1, 4, 1), -99);
        C.of("promise 17: nobody twice in it");
        x = lawful(Checks.bureau(19, 1, 99, 0, 0, 99, 19, 0, 99), 100, 0, 1);
        C.due("no coming back to a, nor on from b", x.chain(0, 1, 4, 0), 132);
        C.due("TONE", x.chain(0, 1, 4, 1), 19);
        C.due("with nobody between", lawful(Checks.bureau(0, 3, 9, 0, 0, 9), 100, 9, 1).chain(0, 1, 4, 0), 12);
        C.due("and back", lawful(Checks.bureau(0, 3, 9, 0, 0, 9), 100, 9, 1).chain(1, 0, 4, 0), 21);
    }

    private static void chainOfSeven() {
        C.of("promise 17: of like ones the first: at each one on its way those by lesser numbers ahead");
        InkOfLetters x = new InkOfLetters();
        for (int p = 0; p < 7; p++) {
            x.writer(0, 8, 99);
        }
        int[][] due = {
            {0, 6, 4, 12347}, {0, 6, 3, 1237}, {0, 6, 2, 127}, {0, 6, 1, 17}, {6, 0, 4, 71}, {6, 1, 4, 712},
            {6, 5, 4, 71236}, {3, 2, 4, 4123}, {3, 5, 3, 4126}, {1, 0, 4, 21}, {0, 1, 4, 12}, {2, 6, 4, 31247},
        };
        for (int[] row : due) {
            String call = "chain(" + row[0] + ", " + row[1] + ", " + row[2] + ", 0)";
            C.due(call, x.chain(row[0], row[1], row[2], 0), row[3]);
            C.due(call + " TONE", x.chain(row[0], row[1], row[2], 1), 8);
        }
        C.of("promise 17: a later way that is better goes ahead of all that are alike");
        x = lawful(Checks.bureau(0, 8, 99, 0, 8, 99, 0, 8, 99, 0, 8, 99, 11, 8, 99, 0, 8, 99, 0, 8, 99), 100, 0, 1);
        C.due("by 4, the first of these", x.chain(0, 6, 4, 0), 12357);
        C.due("by 4 alone", x.chain(0, 6, 2, 0), 157);
        C.due("TONE", x.chain(0, 6, 4, 1), 9);
    }

    private static void who() {
        C.of("promise 18: of like ones the first; -1: nobody is");
        for (int what = 0; what < 3; what++) {
            C.due("nobody is", new InkOfLetters().who(what), -1);
            C.due("one is", Checks.bureau(0, 99, 0).who(what), 0);
        }
        InkOfLetters x = Checks.bureau(0, 0, 50, 0, -99, 50, 0, 99, 50, 0, -99, 50, 0, 99, 50, 0, 1, 50, 0, -1, 50);
        C.due("the least", x.who(0), 1);
        C.due("the most", x.who(1), 2);
        C.due("all of one", x.who(2), 0);
        x.put(1, 0, -98);
        x.put(2, 0, 98);
        C.due("the least", x.who(0), 3);
        C.due("the most", x.who(1), 4);
        x.borrow(6, 5);
        C.due("of two", x.who(2), 6);
        x.borrow(5, 6);
        C.due("of two, the first", x.who(2), 5);
        x.borrow(6, 0);
        C.due("of three", x.who(2), 6);
        C.due("what 3", x.who(3), -2);
        C.due("what -1", x.who(-1), -2);
    }

    private static void mean(InkOfLetters x, long above, long below) {
        C.due("above", x.mean(0), above);
        C.due("below", x.mean(1), below);
        C.due("part 2", x.mean(2), NO);
        C.due("part -1", x.mean(-1), NO);
    }

    private static void mean() {
        C.of("promise 19: in lowest terms, above 0 below the line; NO: there is none");
        mean(new InkOfLetters(), NO, NO);
        mean(Checks.bureau(0, 99, 0, 0, -99, 0), NO, NO);
        mean(Checks.bureau(0, 99, 99), 99, 1);
        mean(Checks.bureau(0, -99, 99), -99, 1);
        mean(Checks.bureau(0, 0, 99), 0, 1);
        mean(Checks.bureau(0, 0, 1), 0, 1);
        mean(Checks.bureau(0, 1, 1, 0, -1, 1), 0, 1);
        mean(Checks.bureau(0, 1, 1, 0, 0, 1), 1, 2);
        mean(Checks.bureau(0, -1, 1, 0, 0, 1), -1, 2);
        mean(Checks.bureau(0, 3, 4, 0, 0, 2), 2, 1);
        mean(Checks.bureau(0, -3, 4, 0, 0, 5), -4, 3);
        mean(Checks.bureau(0, 7, 10, 0, -4, 11, 0, 50, 0), 26, 21);
        InkOfLetters x = new InkOfLetters();
        for (int p = 0; p < 7; p++) {
            x.writer(0, -99, 99);
        }
        mean(x, -99, 1);
        x.put(0, 0, -98);
        mean(x, -692, 7);
    }
}
