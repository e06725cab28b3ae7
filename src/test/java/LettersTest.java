/** Promises 11 to 15: letters, borrowed spoonfuls, watered ink, posts. */
public final class LettersTest {
    private static final Checks C = new Checks();

    public static void main(String[] args) {
        write();
        toldAhead();
        can();
        borrow();
        water();
        post();
        postRefuses();
        deliver();
        C.end();
    }

    private static void tones(String when, InkOfLetters x, int... due) {
        for (int p = 0; p < due.length; p++) {
            C.due(when + ": tone of " + p, x.told(p, 0), due[p]);
        }
    }

    private static void inks(String when, InkOfLetters x, int... due) {
        for (int p = 0; p < due.length; p++) {
            C.due(when + ": ink of " + p, x.told(p, 1), due[p]);
        }
    }

    private static void mixed(String when, InkOfLetters x, int... due) {
        for (int p = 0; p < due.length; p++) {
            C.due(when + ": mixed of " + p, x.told(p, 4), due[p]);
        }
    }

    private static void write() {
        C.of("promise 11");
        InkOfLetters x = new InkOfLetters();
        x.writer(0, 50, 60);
        x.writer(0, -30, 80);
        x.writer(0, 1, 10);
        C.due("write(0, 1)", x.write(0, 1), 10);
        inks("its cost, and 99 at most", x, 50, 99, 10);
        mixed("all who are mixed in", x, 1, 3, 4);
        C.due("write(1, 2)", x.write(1, 2), 5);
        tones("then", x, 50, 10, 5);
        inks("then", x, 50, 89, 30);
        mixed("those of the second, too", x, 1, 3, 7);
        C.due("the same to itself", x.write(0, 0), -5000);
        C.due("to none such", x.write(0, 3), -5000);
        C.due("of none such", x.write(-1, 0), -5000);
        C.due("day", x.count(1), 0);

        InkOfLetters y = new InkOfLetters();
        y.writer(0, -2, 99);
        y.writer(0, -1, 0);
        C.due("cut toward 0", y.write(0, 1), -1);
        y.put(0, 0, 1);
        y.put(1, 0, 1);
        C.due("cut once, of both together", y.write(0, 1), 1);
        Checks.law(y, "boils 100;yields 0;costs 0;");
        y.put(0, 0, -99);
        C.due("all of it comes over", y.write(0, 1), -99);
        Checks.law(y, "boils 0;yields 0;costs 0;");
        y.put(0, 0, 99);
        C.due("nothing of it comes over", y.write(0, 1), -99);
    }

    private static void toldAhead() {
        C.of("promise 11, all told ahead");
        InkOfLetters x = new InkOfLetters();
        x.writer(0, 60, 30);
        x.writer(0, 20, 10);
        Checks.law(x, "boils ink;yields tone;costs ink;");
        C.due("boils as of the other one's ink ahead", x.write(0, 1), 24);
        inks("yields as of the other one's tone ahead", x, 0, 30);
        InkOfLetters y = new InkOfLetters();
        y.writer(0, 40, 50);
        y.writer(0, 0, 0);
        Checks.law(y, "boils mixed*25;yields mixed*10;costs who+1;");
        C.due("boils as of who was mixed in ahead", y.write(0, 1), 10);
        inks("yields as of who was mixed in ahead", y, 49, 10);
        C.due("boils as of who is mixed in then", y.write(0, 1), 25);
        inks("yields then", y, 48, 30);
    }

    private static void can() {
        C.of("promise 11, can't");
        InkOfLetters x = new InkOfLetters();
        x.writer(0, 50, 9);
        x.writer(0, 0, 0);
        x.writer(50, 0, 0);
        C.due("ink 9 of 10", x.write(0, 1), -6000);
        C.due("no ink, though it costs 0", x.write(2, 0), -6000);
        tones("nothing changes", x, 50, 0, 0);
        inks("nothing changes", x, 9, 0, 0);
        mixed("nothing changes", x, 1, 2, 4);
        C.due("-5000 ahead", x.write(1, 1), -5000);
        x.put(0, 1, 10);
        C.due("ink 10 of 10", x.write(0, 1), 25);
        inks("all of it", x, 0, 20, 0);
        x.put(2, 1, 1);
        C.due("ink 1, it costs 0", x.write(2, 0), 25);
        inks("it cost 0", x, 20, 20, 1);
    }

    private static void borrow() {
        C.of("promise 12");
        InkOfLetters x = new InkOfLetters();
        x.writer(0, 50, 10);
        x.writer(0, -40, 23);
        C.due("a spoonful", x.borrow(0, 1), 15);
        tones("by how much there is of each", x, 20, -40);
        inks("so much less", x, 15, 18);
        mixed("who is in the other one's", x, 3, 2);
        x.put(1, 1, 3);
        x.put(0, 0, 50);
        x.put(0, 1, 10);
        C.due("as much as the other one has", x.borrow(0, 1), 13);
        tones("(500 - 120) / 13", x, 29, -40);
        inks("nothing left", x, 13, 0);
        x.put(0, 0, -50);
        x.put(0, 1, 10);
        x.put(1, 0, 41);
        x.put(1, 1, 20);
        C.due("a spoonful", x.borrow(0, 1), 15);
        tones("(-500 + 205) / 15, cut toward 0", x, -19, 41);
        x.put(0, 0, 50);
        x.put(0, 1, 97);
        C.due("as there is room for", x.borrow(0, 1), 99);
        tones("(4850 + 82) / 99", x, 49, 41);
        inks("two less", x, 99, 13);

        InkOfLetters y = new InkOfLetters();
        y.writer(0, 50, 0);
        y.writer(0, -40, 0);
        y.writer(0, 7, 99);
        y.writer(0, 7, 9);
        C.due("nothing of nothing", y.borrow(0, 1), 0);
        tones("as it was", y, 50, -40);
        C.due("no room", y.borrow(2, 3), 99);
        inks("as it was", y, 0, 0, 99, 9);
        mixed("nobody, if nothing was borrowed", y, 1, 2, 4, 8);
        y.write(2, 3);
        C.due("of one in whose ink there is another", y.borrow(0, 3), 5);
        mixed("all who are in it", y, 13, 2, 4, 12);
        C.due("the tone of no ink does not matter", y.told(0, 0), 7);
        y.put(1, 0, 60);
        y.put(1, 1, 1);
        y.put(2, 0, 60);
        y.put(2, 1, 0);
        C.due("the only one", y.borrow(2, 1), 1);
        tones("by one", y, 7, 60, 60, 7);
        mixed("by one", y, 13, 2, 6, 12);
        C.due("one and the same", y.borrow(0, 0), -5000);
        C.due("of none such", y.borrow(0, 4), -5000);
        C.due("to none such", y.borrow(-1, 0), -5000);
    }

    private static void water() {
        C.of("promise 13");
        InkOfLetters x = new InkOfLetters();
        x.writer(0, 50, 10);
        C.due("5 of water", x.water(0, 5), 33);
        inks("5 more", x, 15);
        C.due("none", x.water(0, 0), 33);
        x.put(0, 0, -50);
        C.due("84: 99 at most, cut toward 0", x.water(0, 84), -7);
        inks("full", x, 99);
        C.due("one more", x.water(0, 1), -7000);
        C.due("none into what is full", x.water(0, 0), -7);
        x.put(0, 1, 15);
        C.due("85", x.water(0, 85), -7000);
        C.due("below 0", x.water(0, -1), -7000);
        C.due("far too much", x.water(0, Integer.MAX_VALUE), -7000);
        C.due("far below 0", x.water(0, Integer.MIN_VALUE), -7000);
        inks("as it was", x, 15);
        C.due("none such, ahead of much", x.water(1, -1), -5000);
        x.put(0, 0, 50);
        x.put(0, 1, 0);
        C.due("none into none: as it was", x.water(0, 0), 50);
        C.due("5 into none", x.water(0, 5), 0);
        inks("5", x, 5);
        x.put(0, 0, 50);
        x.put(0, 1, 0);
        C.due("1 into none", x.water(0, 1), 0);
        inks("1", x, 1);
        mixed("oneself", x, 1);
    }

    /** Tones 50, 0, 10; inks 15, 0, 30; of its letters the first and the fourth can't be written. */
    private static InkOfLetters three() {
        InkOfLetters x = new InkOfLetters();
        x.writer(0, 50, 15);
        x.writer(0, 0, 0);
        x.writer(0, 10, 30);
        Checks.sheet(x, 0, 2, 12, 1, 12, 1, 2);
        return x;
    }

    private static void post() {
        C.of("promise 14");
        InkOfLetters x = three();
        Checks.sheet(x, 1, 0, 1);
        Checks.sheet(x, 2, 1, 1, 12, 1);
        x.sheet(3, 0, 0);
        C.due("written", x.post(0, 0), 2);
        C.due("the first left out", x.post(0, 1), 0);
        C.due("the first left out of the third sheet's", x.post(2, 1), 2);
        C.due("none left out", x.post(1, 1), -1);
        C.due("tones", x.post(0, 2), 92);
        C.due("inks", x.post(0, 3), 65);
        int[] tones = {50, 25, 17};
        int[] mixed = {1, 3, 7};
        for (int p = 0; p < 3; p++) {
            C.due("tone of " + p, x.post(0, 10 + p), tones[p]);
            C.due("mixed of " + p, x.post(0, 20 + p), mixed[p]);
        }
        C.due("none written", x.post(3, 0), 0);
        C.due("none left out", x.post(3, 1), -1);
        C.due("tones, as they are", x.post(3, 2), 60);
        C.due("inks, as they are", x.post(3, 3), 45);
        tones("in thought", x, 50, 0, 10);
        inks("in thought", x, 15, 0, 30);
        mixed("in thought", x, 1, 2, 4);
        C.due("day", x.count(1), 0);
        for (int what : new int[] {-1, 4, 9, 13, 16, 17, 19, 23, 26, 27, Integer.MIN_VALUE, Integer.MAX_VALUE}) {
            C.due("what " + what, x.post(0, what), -7000);
        }
        x.put(0, 1, 0);
        Checks.sheet(x, 2, 0, 20, 1, 12);
        C.due("each by the ink of the letter ahead", x.post(2, 1), -1);
        InkOfLetters y = new InkOfLetters();
        for (int p = 0; p < 7; p++) {
            y.writer(0, p, p);
        }
        Checks.sheet(y, 0, 0, 65, 60, 56);
        C.due("none of them can", y.post(0, 1), 0);
        y.put(6, 1, 10);
        y.put(5, 1, 0);
        C.due("the second can't", y.post(0, 1), 1);
        C.due("two of them can", y.post(0, 0), 2);
        C.due("tone of 5", y.post(0, 15), 5);
        C.due("ink of all", y.post(0, 3), 40);
        y.put(6, 1, 6);
        y.put(5, 1, 5);
        y.sheet(0, 0, 0);
        C.due("tone of 6", y.post(0, 16), 6);
        C.due("mixed of 6", y.post(0, 26), 64);
        C.due("what 17", y.post(0, 17), -7000);
        C.due("what 27", y.post(0, 27), -7000);
    }

    private static void postRefuses() {
        C.of("promises 14, 15: no post");
        InkOfLetters x = three();
        x.dawn(999);
        for (int letter : new int[] {0, 11, 22, 3, 13, 30, 33, 100, 101, 112, -1, -12, 99, Integer.MIN_VALUE, Integer.MAX_VALUE}) {
            Checks.sheet(x, 1, 2, 1, letter);
            C.due("post of " + letter, x.post(1, -1), -1002);
            C.due("deliver of " + letter, x.deliver(1), -2);
        }
        C.due("post of sheet 4", x.post(4, -1), -1002);
        C.due("post of sheet -1", x.post(-1, 0), -1002);
        C.due("deliver of sheet 4", x.deliver(4), -2);
        C.due("deliver of sheet -1", x.deliver(-1), -2);
        C.due("post of a missing sheet", x.post(2, -1), -1011);
        C.due("deliver of a missing sheet", x.deliver(2), -11);
        tones("nothing changed", x, 50, 0, 10);
    }

    private static void deliver() {
        C.of("promise 15");
        InkOfLetters x = three();
        C.due("written", x.deliver(0), 2);
        tones("truly", x, 50, 25, 17);
        inks("truly", x, 5, 10, 50);
        mixed("truly", x, 1, 3, 7);
        C.due("day", x.count(1), 1);
        x.sheet(1, 2, 0);
        C.due("an empty post", x.deliver(1), 0);
        C.due("day", x.count(1), 2);
        x.dawn(998);
        C.due("on day 998", x.deliver(0), 1);
        C.due("day", x.count(1), 999);
        int tone = x.told(1, 0);
        C.due("on day 999", x.deliver(0), -3);
        C.due("day", x.count(1), 999);
        C.due("nothing changed", x.told(1, 0), tone);

        InkOfLetters y = new InkOfLetters();
        y.writer(30, 0, 5);
        y.writer(0, 0, 0);
        Checks.sheet(y, 0, 0, 1, 1, 1);
        C.due("one day for all letters of a post", y.deliver(0), 3);
        C.due("a widow's letters of the next day", y.deliver(0), 0);
        inks("it cost 1 each", y, 2, 60);
    }
}
