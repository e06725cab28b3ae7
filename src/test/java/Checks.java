import java.nio.charset.StandardCharsets;

/** What the tests share: telling answers that are not as due, and short ways to set up an object. */
final class Checks {
    private int wrong = 0;
    private int seen = 0;
    private String promise = "";

    /** The checks that follow are of this promise. */
    void of(String promise) {
        this.promise = promise;
    }

    void due(String call, long got, long want) {
        seen++;
        if (got != want) {
            wrong++;
            System.out.println(promise + ": " + call + " answered " + got + ", due is " + want);
        }
    }

    /** Tells the outcome, and ends with exit code 1 if an answer was not as due. */
    void end() {
        System.out.println(wrong == 0 ? seen + " answers as due" : wrong + " of " + seen + " answers not as due");
        if (wrong != 0) {
            System.exit(1);
        }
    }

    /** As due() of numbers, of what is told in words. */
    void due(String call, String got, String want) {
        seen++;
        if (!got.equals(want)) {
            wrong++;
            System.out.println(promise + ": " + call + " is " + got + ", due is " + want);
        }
    }

    /** An object with these writers, each told by three numbers, as writer() has them. */
    static InkOfLetters bureau(int... threes) {
        InkOfLetters x = new InkOfLetters();
        for (int i = 0; i + 2 < threes.length; i += 3) {
            x.writer(threes[i], threes[i + 1], threes[i + 2]);
        }
        return x;
    }

    /** Feeds a text to the tape, by fives as far as they go. */
    static void feed(InkOfLetters x, String text) {
        byte[] bytes = text.getBytes(StandardCharsets.ISO_8859_1);
        for (int i = 0; i < bytes.length; i += 5) {
            int n = Math.min(5, bytes.length - i);
            int[] five = new int[5];
            for (int k = 0; k < n; k++) {
                five[k] = bytes[i + k] & 255;
            }
            x.feed(n, five[0], five[1], five[2], five[3], five[4]);
        }
    }

    /** What text() answers of a tape that holds the text alone. */
    static int text(InkOfLetters x, String text) {
        feed(x, text);
        return x.text();
    }

    /** Makes a text and THE LAW of it: its number. */
    static int law(InkOfLetters x, String text) {
        int t = text(x, text);
        x.force(t);
        return t;
    }

    /** Lays a sheet of a sort with these numbers. */
    static void sheet(InkOfLetters x, int s, int sort, int... numbers) {
        x.sheet(s, sort, numbers.length);
        for (int i = 0; i < numbers.length; i++) {
            x.cell(s, i, numbers[i]);
        }
    }
}
