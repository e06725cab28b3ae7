/** Promises 1 to 4 and 6 to 10: a new object, the day, the tape, the law, the writers and their kinds. */
public final class WritersTest {
    private static final Checks C = new Checks();

    public static void main(String[] args) {
        newObject();
        count();
        dawn();
        feed();
        force();
        asks();
        writer();
        put();
        told();
        kinds();
        C.end();
    }

    private static void newObject() {
        C.of("promise 1");
        InkOfLetters x = new InkOfLetters();
        int[] due = {0, 0, 0, 1, 0, 0};
        for (int what = 0; what < due.length; what++) {
            C.due("count(" + what + ")", x.count(what), due[what]);
        }
        C.due("told(0, 0)", x.told(0, 0), -5000);
        C.due("back()", x.back(), -3);
        for (int s = 0; s < 4; s++) {
            C.due("cell(" + s + ", 0, 0)", x.cell(s, 0, 0), -11);
        }
        new InkOfLetters().writer(0, 0, 0);
        C.due("count(0) behind another object's writer", x.count(0), 0);
    }

    private static void count() {
        C.of("promise 2");
        InkOfLetters x = new InkOfLetters();
        x.writer(0, 5, 40);
        x.writer(11, 5, 99);
        x.dawn(17);
        Checks.law(x, "boils 1;yields 2;costs 3;");
        x.feed(3, 1, 2, 3, 4, 5);
        int[] due = {2, 17, 139, 2, 1, 3};
        for (int what = 0; what < due.length; what++) {
            C.due("count(" + what + ")", x.count(what), due[what]);
        }
        C.due("count(-1)", x.count(-1), -2);
        C.due("count(6)", x.count(6), -2);
    }

    private static void dawn() {
        C.of("promise 3");
        InkOfLetters x = new InkOfLetters();
        C.due("dawn(999)", x.dawn(999), 0);
        C.due("dawn(1000)", x.dawn(1000), -2);
        C.due("dawn(-1)", x.dawn(-1), -2);
        C.due("dawn(0)", x.dawn(0), 999);
        C.due("count(1)", x.count(1), 0);
    }

    private static void feed() {
        C.of("promise 4");
        InkOfLetters x = new InkOfLetters();
        C.due("feed n 0", x.feed(0, 1, 1, 1, 1, 1), -2);
        C.due("feed n 6", x.feed(6, 1, 1, 1, 1, 1), -2);
        for (int i = 0; i < 5; i++) {
            int[] low = new int[5];
            low[i] = -1;
            C.due("feed -1 at " + i, x.feed(1, low[0], low[1], low[2], low[3], low[4]), -2);
            low[i] = 256;
            C.due("feed 256 at " + i, x.feed(5, low[0], low[1], low[2], low[3], low[4]), -2);
            low[i] = 255;
            C.due("feed 255 at " + i, x.feed(1, low[0], low[1], low[2], low[3], low[4]), i + 1);
        }
        for (int i = 0; i < 30; i++) {
            x.feed(5, 32, 32, 32, 32, 32);
        }
        C.due("feed 4 to 155", x.feed(4, 0, 0, 0, 0, 0), 159);
        C.due("feed 2 to 159", x.feed(2, 0, 0, 0, 0, 0), -4);
        C.due("count(5)", x.count(5), 159);
        C.due("BAD ahead of FULL", x.feed(2, 0, 0, 0, 0, 256), -2);
        C.due("feed 1 to 159", x.feed(1, 0, 0, 0, 0, 0), 160);
        C.due("feed 1 to 160", x.feed(1, 0, 0, 0, 0, 0), -4);

        InkOfLetters y = new InkOfLetters();
        String text = "boils 31;yields 4;costs 2;";
        for (int i = 0; i < text.length(); i++) {
            y.feed(1, text.charAt(i), 0, 0, 0, 0);
        }
        C.due("text of bytes one by one", y.text(), 1);
        y.force(1);
        y.writer(0, 0, 0);
        C.due("asks(0, 0)", y.asks(0, 0), 31);
    }

    private static void force() {
        C.of("promise 6");
        InkOfLetters x = new InkOfLetters();
        C.due("force(1), no such", x.force(1), -2);
        Checks.text(x, "boils 1;yields 2;costs 3;");
        C.due("THE LAW behind text()", x.count(4), 0);
        C.due("force(1)", x.force(1), 0);
        C.due("force(-1)", x.force(-1), -2);
        C.due("force(2)", x.force(2), -2);
        C.due("force(6)", x.force(6), -2);
        C.due("THE LAW", x.count(4), 1);
        C.due("force(0)", x.force(0), 1);
        C.due("THE LAW", x.count(4), 0);
    }

    private static void asks() {
        C.of("promise 7");
        InkOfLetters x = new InkOfLetters();
        x.writer(23, -7, 8);
        x.writer(14, 99, 6);
        C.due("boils", x.asks(0, 0), 50);
        C.due("yields, without what the kind makes of it", x.asks(1, 0), 20);
        C.due("costs, without what the kind makes of it", x.asks(2, 1), 10);
        C.due("part -1", x.asks(-1, 0), -1000);
        C.due("part 3", x.asks(3, 0), -1000);
        C.due("p 2", x.asks(0, 2), -1000);
        C.due("p -1", x.asks(0, -1), -1000);
        Checks.law(x, "boils tone+3;yields ink-7;costs tone+1;");
        C.due("boils -4 is held at 0", x.asks(0, 0), 0);
        C.due("boils 102 is held at 100", x.asks(0, 1), 100);
        C.due("yields 1", x.asks(1, 0), 1);
        C.due("yields -1 is held at 0", x.asks(1, 1), 0);
        C.due("costs -6 is held at 0", x.asks(2, 0), 0);
        C.due("costs 100 is held at 99", x.asks(2, 1), 99);
        Checks.law(x, "boils 100;yields 100;costs 99;");
        C.due("boils 100", x.asks(0, 0), 100);
        C.due("yields 100 is held at 99", x.asks(1, 0), 99);
        C.due("costs 99", x.asks(2, 0), 99);
    }

    private static void writer() {
        C.of("promise 8");
        InkOfLetters x = new InkOfLetters();
        C.due("kind 6", x.writer(60, 0, 0), -2);
        C.due("kindMore -1", x.writer(-1, 0, 0), -2);
        C.due("tone 100", x.writer(0, 100, 0), -2);
        C.due("tone -100", x.writer(0, -100, 0), -2);
        C.due("ink 100", x.writer(0, 0, 100), -2);
        C.due("ink -1", x.writer(0, 0, -1), -2);
        C.due("none came", x.count(0), 0);
        C.due("the first", x.writer(59, -99, 99), 0);
        C.due("the second", x.writer(0, 99, 0), 1);
        C.due("kind", x.told(0, 2), 5);
        C.due("more", x.told(0, 3), 9);
        C.due("tone", x.told(0, 0), -99);
        C.due("ink", x.told(0, 1), 99);
        C.due("mixed: oneself", x.told(1, 4), 2);
        for (int p = 2; p < 7; p++) {
            C.due("writer " + p, x.writer(p, p, p), p);
        }
        C.due("an eighth", x.writer(0, 0, 0), -4);
        C.due("BAD ahead of FULL", x.writer(60, 0, 0), -2);
        C.due("count(0)", x.count(0), 7);
    }

    private static void put() {
        C.of("promise 9");
        InkOfLetters x = new InkOfLetters();
        x.writer(0, 7, 8);
        C.due("tone becomes -99", x.put(0, 0, -99), 7);
        C.due("tone becomes 99", x.put(0, 0, 99), -99);
        C.due("tone 100", x.put(0, 0, 100), -7000);
        C.due("tone -100", x.put(0, 0, -100), -7000);
        C.due("ink becomes 99", x.put(0, 1, 99), 8);
        C.due("ink becomes 0", x.put(0, 1, 0), 99);
        C.due("ink 100", x.put(0, 1, 100), -7000);
        C.due("ink -1", x.put(0, 1, -1), -7000);
        C.due("what 2", x.put(0, 2, 0), -7000);
        C.due("what -1", x.put(0, -1, 0), -7000);
        C.due("none such, ahead of what", x.put(1, 2, 0), -5000);
        C.due("tone", x.told(0, 0), 99);
        C.due("ink", x.told(0, 1), 0);
    }

    private static void told() {
        C.of("promise 10");
        InkOfLetters x = new InkOfLetters();
        x.writer(24, -31, 50);
        x.writer(9, 40, 60);
        x.writer(0, 0, 60);
        x.write(0, 1);
        x.write(1, 2);
        int[] first = {-31, 40, 2, 4, 1, -15, 24, 10, 7};
        for (int what = 0; what < first.length; what++) {
            C.due("told(0, " + what + ")", x.told(0, what), first[what]);
        }
        C.due("who is in the second's", x.told(1, 4), 3);
        C.due("who is in the third's", x.told(2, 4), 7);
        C.due("in whose the second is", x.told(1, 8), 6);
        C.due("in whose the third is", x.told(2, 8), 4);
        C.due("what -1", x.told(0, -1), -7000);
        C.due("what 9", x.told(0, 9), -7000);
        C.due("none such, ahead of what", x.told(3, 9), -5000);
        C.due("p -1", x.told(-1, 0), -5000);
    }

    /** KIND, MORE, TONE, then in which tone one writes, yields, costs on day 0, costs on day 1. */
    private static void kinds() {
        C.of("kinds (promise 10)");
        int[][] due = {
            {0, 5, -33, -33, 20, 10, 10},
            {1, 5, -33, -38, 20, 20, 20},
            {1, 5, 0, 5, 20, 20, 20},
            {1, 5, 33, 38, 20, 20, 20},
            {1, 9, 95, 99, 20, 20, 20},
            {1, 9, -95, -99, 20, 20, 20},
            {2, 5, -33, -16, 25, 10, 10},
            {2, 5, 33, 16, 25, 10, 10},
            {3, 5, -1, -6, 20, 1, 20},
            {3, 5, 0, 5, 6, 1, 20},
            {3, 5, 33, 38, 6, 1, 20},
            {4, 5, -33, 16, 50, 10, 10},
            {4, 5, 33, 16, 50, 10, 10},
            {5, 5, -33, 33, 20, 5, 5},
            {5, 0, 99, -99, 20, 0, 0},
        };
        for (int[] row : due) {
            InkOfLetters x = new InkOfLetters();
            x.writer(10 * row[0] + row[1], row[2], 50);
            String who = "kind " + row[0] + ", more " + row[1] + ", tone " + row[2] + " ";
            C.due(who + "writes", x.told(0, 5), row[3]);
            C.due(who + "yields", x.told(0, 6), row[4]);
            C.due(who + "costs on day 0", x.told(0, 7), row[5]);
            x.dawn(1);
            C.due(who + "costs on day 1", x.told(0, 7), row[6]);
            x.dawn(5);
            C.due(who + "costs on day 5", x.told(0, 7), row[5]);
        }
        InkOfLetters x = new InkOfLetters();
        x.writer(49, 0, 0);
        x.writer(30, 0, 0);
        x.writer(10, 0, 0);
        Checks.law(x, "boils 0;yields 99;costs 99;");
        C.due("a bank yields more than 99", x.told(0, 6), 216);
        C.due("a widow yields a third", x.told(1, 6), 33);
        C.due("a lover's letter costs more than 99", x.told(2, 7), 198);
        Checks.law(x, "boils 0;yields 0-50;costs 0-50;");
        C.due("a bank yields of what is held at 0", x.told(0, 6), 18);
        C.due("a widow's letter costs 1, though the text says 0", x.told(1, 7), 1);
        C.due("a lover's letter costs of what is held at 0", x.told(2, 7), 0);
    }
}
