/** Promises 26 to 29: posts by lots, images. */
public final class LotsTest {
    private static final Checks C = new Checks();
    private static final long NO = -4611686018427387904L;

    public static void main(String[] args) {
        drawn();
        odds();
        image();
        C.end();
    }

    /** The only letter that can be written is that of 1 to 0, once: all together are 50, then 100. */
    private static InkOfLetters two() {
        InkOfLetters x = new InkOfLetters();
        x.writer(0, 0, 0);
        x.writer(0, 50, 10);
        Checks.law(x, "boils 100;yields 0;costs 10;");
        return x;
    }

    /** The lots of seed 5 are 1 0, 6 5, 1 6, ..; of seed 0 they are 6 0, 5 4, 1 0, 0 6, 4 4, 2 2, .. */
    private static void drawn() {
        C.of("promise 26");
        InkOfLetters x = two();
        C.due("no letter", x.drawn(5, 0, 0), 50);
        C.due("none written", x.drawn(5, 0, 1), 0);
        C.due("one letter", x.drawn(5, 1, 0), 100);
        C.due("one written", x.drawn(5, 1, 1), 1);
        C.due("two letters of nobody there", x.drawn(0, 2, 0), 50);
        C.due("the third is one", x.drawn(0, 3, 0), 100);
        C.due("one written", x.drawn(0, 6, 1), 1);
        C.due("seed 165 at letter 20", x.drawn(165, 20, 1), 0);
        C.due("seed 165 at letter 21", x.drawn(165, 21, 1), 1);
        C.due("60 letters", x.drawn(5, 60, 1), 1);
        C.due("61 letters", x.drawn(5, 61, 1), -1000);
        C.due("-1 letters", x.drawn(5, -1, 1), -1000);
        C.due("seed -1", x.drawn(-1, 1, 1), -1000);
        C.due("seed 100000", x.drawn(100000, 1, 1), -1000);
        C.due("seed 99999", x.drawn(99999, 1, 0), 50);
        C.due("what 2", x.drawn(5, 1, 2), -1000);
        C.due("what -1", x.drawn(5, 1, -1), -1000);
        C.due("in thought", x.told(0, 0), 0);
        C.due("in thought", x.told(1, 1), 10);
        C.due("nobody is", new InkOfLetters().drawn(5, 60, 0), 0);

        InkOfLetters y = new InkOfLetters();
        for (int p = 0; p < 7; p++) {
            y.writer(0, 10 * p, 99);
        }
        Checks.law(y, "boils 100;yields 0;costs 0;");
        C.due("seed 0: 6 to 0, 5 to 4, 1 to 0", y.drawn(0, 3, 0), 230);
        C.due("then 0 to 6", y.drawn(0, 4, 0), 180);
        C.due("then 4 to 4, 2 to 2", y.drawn(0, 6, 1), 4);
        C.due("seed 99999: 0 to 2", y.drawn(99999, 1, 0), 190);
    }

    private static void odds() {
        C.of("promise 27");
        InkOfLetters x = two();
        C.due("of 40", x.odds(0, 40, 100, 0), 19);
        C.due("of 40", x.odds(0, 40, 100, 1), 40);
        C.due("in lowest terms", x.odds(200, 30, 100, 0), 7);
        C.due("in lowest terms", x.odds(200, 30, 100, 1), 15);
        C.due("seeds past 99999", x.odds(99980, 40, 100, 0), 3);
        C.due("seeds past 99999", x.odds(99980, 40, 100, 1), 10);
        C.due("of one", x.odds(99999, 1, 100, 0), 1);
        C.due("by the letter 20", x.odds(86, 1, 100, 0), 1);
        C.due("not by the letter 21", x.odds(165, 1, 100, 0), 0);
        C.due("51 is the same", x.odds(0, 40, 51, 0), 19);
        C.due("all have 50", x.odds(0, 40, 50, 0), 1);
        C.due("all have 50", x.odds(0, 40, 50, 1), 1);
        C.due("none has 101", x.odds(0, 40, 101, 0), 0);
        C.due("none has 101", x.odds(0, 40, 101, 1), 1);
        C.due("least -999", x.odds(0, 1, -999, 0), 1);
        C.due("least 999", x.odds(0, 1, 999, 0), 0);
        C.due("least -1000", x.odds(0, 1, -1000, 0), NO);
        C.due("least 1000", x.odds(0, 1, 1000, 0), NO);
        C.due("seeds 0", x.odds(0, 0, 0, 0), NO);
        C.due("seeds 41", x.odds(0, 41, 0, 0), NO);
        C.due("seed -1", x.odds(-1, 1, 0, 0), NO);
        C.due("seed 100000", x.odds(100000, 1, 0, 0), NO);
        C.due("part 2", x.odds(0, 1, 0, 2), NO);
        C.due("part -1", x.odds(0, 1, 0, -1), NO);
        C.due("in thought", x.told(0, 0), 0);
    }

    private static void image() {
        C.of("promises 28, 29");
        InkOfLetters x = new InkOfLetters();
        C.due("none kept", x.back(), -3);
        C.due("an image of nobody", x.image(), 0);
        x.writer(0, 1, 2);
        C.due("back to nobody", x.back(), 0);
        C.due("count(0)", x.count(0), 0);
        x.writer(14, 40, 50);
        x.writer(0, -9, 60);
        x.dawn(7);
        Checks.text(x, "boils 1;yields 2;costs 3;");
        C.due("an image of two", x.image(), 2);
        x.force(1);
        x.write(0, 1);
        x.dawn(70);
        x.put(0, 0, 3);
        x.put(0, 1, 3);
        Checks.text(x, "boils 4;yields 5;costs 6;");
        Checks.sheet(x, 0, 0, 1);
        x.feed(2, 1, 1, 1, 1, 1);
        x.writer(59, 1, 1);
        x.write(2, 1);
        for (int i = 0; i < 2; i++) {
            C.due("back", x.back(), 2);
            int[][] due = {{40, 50, 1, 4, 1}, {-9, 60, 0, 0, 2}};
            for (int p = 0; p < 2; p++) {
                for (int what = 0; what < 5; what++) {
                    C.due("told(" + p + ", " + what + ")", x.told(p, what), due[p][what]);
                }
            }
            int[] counts = {2, 7, 110, 3, 0, 2};
            for (int what = 0; what < counts.length; what++) {
                C.due("count(" + what + ")", x.count(what), counts[what]);
            }
            C.due("those that came since are none", x.told(2, 0), -5000);
            C.due("sheets stay", x.post(0, 0), 1);
            x.force(2);
            C.due("texts stay", x.asks(0, 0), 4);
            x.write(0, 1);
            x.dawn(8);
            x.writer(35, 5, 5);
        }
        C.due("a new image", x.image(), 3);
        x.put(2, 0, 77);
        C.due("back to it", x.back(), 3);
        C.due("its tone", x.told(2, 0), 5);
        C.due("its law", x.count(4), 2);
        C.due("its day", x.count(1), 8);
    }
}
