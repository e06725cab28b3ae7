/** Promises 16 to 19: to whom, by which friends, whose, the mean. */
public final class BestTest {
    private static final Checks C = new Checks();

    public static void main(String[] args) {
        whom();
        chain();
        chainOfLikeOnes();
        chainByFour();
        who();
        mean();
        C.end();
    }

    private static void whom() {
        C.of("promise 16");
        InkOfLetters x = new InkOfLetters();
        x.writer(0, 50, 60);
        C.due("nobody else", x.whom(0, 0), -1);
        C.due("tones, as they are", x.whom(0, 1), 50);
        x.writer(0, 10, 60);
        x.writer(0, 0, 9);
        x.writer(0, 0, 60);
        C.due("of like ones the first", x.whom(0, 0), 2);
        C.due("tones", x.whom(0, 1), 85);
        C.due("one can't", x.whom(2, 0), -1);
        C.due("tones, as they are", x.whom(2, 1), 60);
        C.due("only for the worse, or as it is", x.whom(3, 0), 2);
        C.due("tones", x.whom(3, 1), 60);
        x.put(2, 0, 40);
        C.due("only for the worse", x.whom(3, 0), 1);
        C.due("tones", x.whom(3, 1), 95);
        x.put(2, 0, 0);
        x.put(0, 0, -50);
        C.due("for the worse by least", x.whom(0, 0), 2);
        C.due("tones", x.whom(0, 1), -65);
        C.due("the others for the better, the first most", x.whom(1, 0), 0);
        C.due("tones", x.whom(1, 1), -10);
        C.due("what 2", x.whom(0, 2), -7000);
        C.due("what -1", x.whom(0, -1), -7000);
        C.due("none such, ahead of what", x.whom(4, 2), -5000);
        C.due("p -1", x.whom(-1, 0), -5000);
        C.due("in thought", x.told(2, 0), 0);
        C.due("in thought", x.told(0, 1), 60);
        C.due("nobody at all", new InkOfLetters().whom(0, 0), -5000);
    }

    private static void chain() {
        C.of("promise 17");
        InkOfLetters x = new InkOfLetters();
        x.writer(0, 90, 10);
        x.writer(19, 99, 0);
        x.writer(0, 0, 0);
        C.due("by one letter", x.chain(0, 2, 1, 0), 13);
        C.due("tone", x.chain(0, 2, 1, 1), 45);
        C.due("by a friend with the ink of that letter", x.chain(0, 2, 2, 0), 123);
        C.due("tone", x.chain(0, 2, 2, 1), 49);
        C.due("by four", x.chain(0, 2, 4, 0), 123);
        C.due("none", x.chain(1, 2, 4, 0), -1);
        C.due("tone of none", x.chain(1, 2, 4, 1), -1000);
        C.due("in thought", x.told(2, 0), 0);
        C.due("in thought", x.told(0, 1), 10);
        Checks.law(x, "boils 50;yields 19;costs 10;");
        C.due("the friend can't: 19 of 20", x.chain(0, 2, 2, 0), 13);
        C.due("letters 0", x.chain(0, 2, 0, 0), -7000);
        C.due("letters 5", x.chain(0, 2, 5, 0), -7000);
        C.due("what 2", x.chain(0, 2, 1, 2), -7000);
        C.due("what -1", x.chain(0, 2, 1, -1), -7000);
        C.due("one and the same, ahead of letters", x.chain(0, 0, 0, 2), -5000);
        C.due("none such", x.chain(0, 3, 1, 0), -5000);
        C.due("none such", x.chain(-1, 0, 1, 0), -5000);
        x.put(0, 0, -99);
        x.put(2, 0, -99);
        C.due("tone -99", x.chain(0, 2, 1, 1), -99);
    }

    private static void chainOfLikeOnes() {
        C.of("promise 17, of like ones");
        InkOfLetters x = new InkOfLetters();
        for (int p = 0; p < 7; p++) {
            x.writer(0, p, 50);
        }
        Checks.law(x, "boils 0;yields 0;costs 1;");
        C.due("by lesser numbers ahead", x.chain(0, 3, 3, 0), 1234);
        C.due("tone", x.chain(0, 3, 3, 1), 3);
        C.due("two letters", x.chain(0, 3, 2, 0), 124);
        C.due("one letter", x.chain(0, 3, 1, 0), 14);
        C.due("the last one is the least", x.chain(0, 1, 4, 0), 12);
        C.due("from a greater one", x.chain(6, 1, 4, 0), 712);
        C.due("from a greater one", x.chain(6, 5, 4, 0), 71236);
        C.due("to 0", x.chain(5, 0, 4, 0), 61);
    }

    /** Lovers of light ink: each on the way adds its MORE. */
    private static void chainByFour() {
        C.of("promise 17, one to four letters");
        InkOfLetters x = new InkOfLetters();
        x.writer(19, 10, 2);
        x.writer(15, 0, 0);
        x.writer(19, 0, 0);
        x.writer(17, 0, 0);
        x.writer(10, 0, 0);
        x.writer(19, 0, 0);
        Checks.law(x, "boils 100;yields (who<5)*2;costs 1;");
        int[] ways = {15, 135, 1345, 12345};
        int[] tones = {19, 28, 35, 40};
        for (int letters = 1; letters <= 4; letters++) {
            C.due("way of " + letters, x.chain(0, 4, letters, 0), ways[letters - 1]);
            C.due("tone of " + letters, x.chain(0, 4, letters, 1), tones[letters - 1]);
        }
        C.due("one who gets no ink can only be the last", x.chain(0, 5, 2, 1), 28);
    }

    private static void who() {
        C.of("promise 18");
        InkOfLetters x = new InkOfLetters();
        for (int what = 0; what < 3; what++) {
            C.due("nobody is", x.who(what), -1);
        }
        x.writer(0, 5, 50);
        x.writer(0, -3, 50);
        x.writer(0, -3, 50);
        x.writer(0, 5, 50);
        C.due("least", x.who(0), 1);
        C.due("most", x.who(1), 0);
        C.due("of like ones the first", x.who(2), 0);
        x.borrow(3, 2);
        C.due("in whose most are", x.who(2), 3);
        x.borrow(1, 0);
        C.due("of like ones the first", x.who(2), 1);
        C.due("what 3", x.who(3), -2);
        C.due("what -1", x.who(-1), -2);
    }

    private static void mean() {
        C.of("promise 19");
        InkOfLetters x = new InkOfLetters();
        C.due("nobody is", x.mean(0), -4611686018427387904L);
        x.writer(0, 50, 0);
        C.due("no ink", x.mean(1), -4611686018427387904L);
        x.put(0, 1, 10);
        x.writer(0, -20, 30);
        C.due("above", x.mean(0), -5);
        C.due("below", x.mean(1), 2);
        x.put(0, 0, 60);
        C.due("above, 0", x.mean(0), 0);
        C.due("below", x.mean(1), 1);
        x.put(0, 0, 99);
        C.due("above", x.mean(0), 39);
        C.due("below", x.mean(1), 4);
        x.put(1, 1, 0);
        C.due("a whole number", x.mean(0), 99);
        C.due("below", x.mean(1), 1);
        C.due("part 2", x.mean(2), -4611686018427387904L);
        C.due("part -1", x.mean(-1), -4611686018427387904L);
    }
}
