/** Promises 20 to 25: told posts. */
public final class ToldTest {
    private static final Checks C = new Checks();

    public static void main(String[] args) {
        judge();
        refusals();
        kinds();
        inks();
        whose();
        laws();
        film();
        greatest();
        inThought();
        C.end();
    }

    /** As in LettersTest: tones behind the letters: 50 .. of 0; 0, 25 .. of 1; 10, 10, 17 .. of 2. */
    private static InkOfLetters three() {
        InkOfLetters x = new InkOfLetters();
        x.writer(0, 50, 15);
        x.writer(0, 0, 0);
        x.writer(0, 10, 30);
        Checks.sheet(x, 0, 2, 12, 1, 12, 1, 2);
        return x;
    }

    private static void judge() {
        C.of("promise 20");
        InkOfLetters x = three();
        Checks.sheet(x, 1, 2, 0, 25, 25, 25, 25);
        C.due("as told", x.judge(0, 1, 1), -1);
        for (int i = 0; i < 5; i++) {
            x.cell(1, i, -1);
            C.due("otherwise at " + i, x.judge(0, 1, 1), i);
            x.cell(1, i, i == 0 ? 0 : 25);
        }
        x.cell(1, 2, -1);
        x.cell(1, 4, -1);
        C.due("the first", x.judge(0, 1, 1), 2);
        Checks.sheet(x, 1, 1, 0, 25);
        C.due("less is told", x.judge(0, 1, 1), -1);
        C.due("of another one", x.judge(0, 1, 2), 0);
        x.sheet(1, 0, 0);
        C.due("nothing is told", x.judge(0, 1, 1), -1);
        Checks.sheet(x, 2, 2, 1);
        C.due("a sheet told by itself", x.judge(2, 2, 1), 0);
        x.put(0, 0, 2);
        C.due("a sheet told by itself", x.judge(2, 2, 1), -1);
    }

    private static void due(InkOfLetters x, int s, int told, int p, int judged) {
        String call = "(" + s + ", " + told + ", " + p + ")";
        C.due("judge" + call, x.judge(s, told, p), judged);
        C.due("kinds" + call, x.kinds(s, told, p, 9), judged);
        C.due("inks" + call, x.inks(s, told, p, 9, 9), judged - 1000);
        C.due("laws" + call, x.laws(s, told, p), judged);
        if (judged != -5) {
            C.due("whose" + call, x.whose(s, told), judged);
        }
    }

    private static void refusals() {
        C.of("promises 20 to 24, refusals in their order");
        InkOfLetters x = three();
        Checks.sheet(x, 1, 0, 0, 25, 25, 25, 25, 25);
        Checks.sheet(x, 3, 0, 3);
        due(x, 2, 4, 9, -2);
        due(x, 2, -1, 9, -2);
        due(x, 4, 2, 9, -2);
        due(x, -1, 2, 9, -2);
        due(x, 2, 2, 9, -11);
        due(x, 3, 2, 9, -2);
        due(x, 0, 2, 9, -11);
        due(x, 0, 1, 9, -2);
        x.sheet(1, 0, 5);
        due(x, 0, 1, 3, -5);
        due(x, 0, 1, -1, -5);
        C.due("kinds sort 2", x.kinds(0, 1, 0, 2), -7);
        C.due("kinds sort -1", x.kinds(0, 1, 0, -1), -7);
        C.due("inks sort 2", x.inks(0, 1, 0, 2, 0), -7000);
        C.due("inks sort -1", x.inks(0, 1, 0, -1, 0), -7000);
        C.due("inks what 2", x.inks(0, 1, 0, 0, 2), -7000);
        C.due("inks what -1", x.inks(0, 1, 0, 0, -1), -7000);
    }

    /** 0 writes to 1, that one back: behind it 0 has tone 37, 39, 31, 39, 31, 12 by its kind. */
    private static InkOfLetters two(int kindMore) {
        InkOfLetters x = new InkOfLetters();
        x.writer(kindMore, 50, 60);
        x.writer(0, 0, 60);
        Checks.sheet(x, 0, 2, 1, 10);
        return x;
    }

    private static void kinds() {
        C.of("promise 21");
        int[] tones = {37, 39, 31, 12, 38};
        int[] due = {1, 10, 20, 32, 0};
        for (int kind = 0; kind < 6; kind++) {
            InkOfLetters x = two(10 * kind + 6);
            for (int i = 0; i < tones.length; i++) {
                Checks.sheet(x, 1, 0, 50, tones[i]);
                C.due("kinds by " + tones[i], x.kinds(0, 1, 0, 0), due[i]);
            }
        }
        InkOfLetters x = two(16);
        Checks.sheet(x, 1, 0, 50, 39);
        C.due("more by 39", x.kinds(0, 1, 0, 1), 960);
        Checks.sheet(x, 1, 0, 50, 37);
        C.due("more by 37", x.kinds(0, 1, 0, 1), 3);
        Checks.sheet(x, 1, 0, 50);
        C.due("more by the first", x.kinds(0, 1, 0, 1), 1023);
        C.due("kinds by the first", x.kinds(0, 1, 0, 0), 63);
        Checks.sheet(x, 1, 0, 49);
        C.due("more by none", x.kinds(0, 1, 0, 1), 0);
        C.due("kinds by none", x.kinds(0, 1, 0, 0), 0);
    }

    private static void inks() {
        C.of("promise 22");
        InkOfLetters x = two(6);
        x.sheet(1, 0, 0);
        C.due("all tones", x.inks(0, 1, 0, 0, 0), 199);
        C.due("the least", x.inks(0, 1, 0, 0, 1), -99);
        C.due("all inks", x.inks(0, 1, 0, 1, 0), 100);
        C.due("the least", x.inks(0, 1, 0, 1, 1), 0);
        Checks.sheet(x, 1, 0, 50, 37);
        C.due("one tone", x.inks(0, 1, 0, 0, 0), 1);
        C.due("it", x.inks(0, 1, 0, 0, 1), 50);
        Checks.sheet(x, 1, 0, 25);
        C.due("tones of 1 that become 25", x.inks(0, 1, 1, 0, 0), 2);
        C.due("the least", x.inks(0, 1, 1, 0, 1), 0);
        Checks.sheet(x, 1, 0, -24);
        C.due("tones of 1 that become -24", x.inks(0, 1, 1, 0, 0), 2);
        C.due("the least", x.inks(0, 1, 1, 0, 1), -99);
        x.put(1, 1, 0);
        Checks.sheet(x, 1, 0, 50, 37);
        C.due("inks by which it is written, and answered", x.inks(0, 1, 0, 1, 0), 90);
        C.due("the least", x.inks(0, 1, 0, 1, 1), 10);
        Checks.sheet(x, 1, 0, 50, 50);
        C.due("inks by which it is left out", x.inks(0, 1, 0, 1, 0), 10);
        C.due("the least", x.inks(0, 1, 0, 1, 1), 0);
        Checks.sheet(x, 1, 0, 50, 3);
        C.due("none", x.inks(0, 1, 0, 1, 0), 0);
        C.due("the least of none", x.inks(0, 1, 0, 1, 1), -1000);
        C.due("the least of none", x.inks(0, 1, 0, 0, 1), -1000);
    }

    private static void whose() {
        C.of("promise 23");
        InkOfLetters x = two(0);
        x.writer(0, 25, 0);
        x.writer(0, 50, 0);
        Checks.sheet(x, 0, 2, 1);
        Checks.sheet(x, 1, 0, 25);
        C.due("25", x.whose(0, 1), 6);
        Checks.sheet(x, 1, 0, 50);
        C.due("50", x.whose(0, 1), 9);
        Checks.sheet(x, 1, 0, 0);
        C.due("0", x.whose(0, 1), 0);
        x.sheet(1, 0, 0);
        C.due("nothing told", x.whose(0, 1), 15);
        InkOfLetters y = new InkOfLetters();
        y.sheet(0, 0, 0);
        C.due("nobody is", y.whose(0, 0), 0);
    }

    private static void laws() {
        C.of("promise 24");
        InkOfLetters x = two(0);
        Checks.text(x, "boils 50;yields 0;costs 0;");
        Checks.law(x, "boils 40;yields 0;costs 0;");
        Checks.sheet(x, 1, 0, 25);
        C.due("25", x.laws(0, 1, 1), 3);
        Checks.sheet(x, 1, 0, 20);
        C.due("20", x.laws(0, 1, 1), 4);
        Checks.sheet(x, 1, 0, 21);
        C.due("21", x.laws(0, 1, 1), 0);
        x.sheet(1, 0, 0);
        C.due("nothing told", x.laws(0, 1, 1), 7);
        C.due("THE LAW", x.count(4), 2);
    }

    private static void film() {
        C.of("promise 25");
        InkOfLetters x = three();
        x.put(2, 0, -99);
        x.put(0, 0, -99);
        x.sheet(1, 2, 40);
        C.due("film(0, 1, 1)", x.film(0, 1, 1), 5);
        C.due("bytes", x.writersBy(1, 0, 0, 0), 0);
        C.due("as the tones are", x.judge(0, 1, 1), -1);
        C.due("a sixth place", x.cell(1, 5, 0), -12);
        Checks.sheet(x, 2, 0, 0, -49, -49, -49, -49);
        for (int i = 0; i < 5; i++) {
            x.sheet(3, 0, 0);
            Checks.sheet(x, 3, 0, 1);
            x.put(1, 0, i == 0 ? 0 : -49);
            x.put(0, 1, 0);
            x.sheet(0, 2, 1);
            x.cell(0, 0, 1);
            x.copy(1, i, 3, 0, 1);
            C.due("tone " + i, x.judge(0, 3, 1), -1);
        }
        C.due("over a missing one", remade(x), 1);
        C.due("its tone", x.judge(0, 3, 2), -1);
        x.sheet(0, 0, 0);
        C.due("an empty post", x.film(0, 3, 0), 0);
        C.due("an empty row", x.cell(3, 0, 0), -12);

        InkOfLetters y = three();
        Checks.sheet(y, 1, 2, 7, 7);
        Checks.sheet(y, 2, 2, 3);
        C.due("told 4", y.film(3, 4, 9), -2);
        C.due("told -1", y.film(3, -1, 9), -2);
        C.due("one and the same", y.film(3, 3, 9), -2);
        C.due("s 4", y.film(4, 1, 9), -2);
        C.due("s is missing", y.film(3, 1, 9), -11);
        C.due("no post", y.film(2, 1, 9), -2);
        C.due("none such", y.film(0, 1, 3), -5);
        C.due("none such", y.film(0, 1, -1), -5);
        C.due("told as it was", y.copy(1, 0, 2, 0, 1), 1);
        C.due("told as it was", y.cell(1, 1, 0), 1);
    }

    /** Letters between those of the greatest numbers. */
    private static void greatest() {
        C.of("promises 20, 25, of seven");
        InkOfLetters x = new InkOfLetters();
        for (int p = 0; p < 7; p++) {
            x.writer(0, 10 * p, 50);
        }
        Checks.law(x, "boils 100;yields 0;costs 0;");
        Checks.sheet(x, 0, 0, 54, 45, 36, 65, 16);
        C.due("film of 5", x.film(0, 1, 5), 5);
        Checks.sheet(x, 2, 0, 50, 50, 50, 30, 30);
        C.due("5 as told", x.judge(0, 2, 5), -1);
        film(x, 2, 5);
        Checks.sheet(x, 2, 0, 60, 60, 30, 30, 10);
        C.due("6 as told", x.judge(0, 2, 6), -1);
        film(x, 2, 6);
        Checks.sheet(x, 2, 0, 50, 50, 50, 50, 50);
        C.due("4 as told", x.judge(0, 2, 4), -1);
        film(x, 2, 4);
    }

    /** The film of one, place by place, is what a sheet tells. */
    private static void film(InkOfLetters x, int told, int p) {
        x.film(0, 1, p);
        int tone = x.told(p, 0);
        for (int i = 0; i < 5; i++) {
            x.sheet(3, 0, 5);
            x.copy(told, 0, 3, 0, 5);
            x.copy(1, i, 3, i, 1);
            C.due("film of " + p + " at " + i, x.judge(0, 3, p), -1);
        }
        C.due("in thought", x.told(p, 0), tone);
    }

    private static int remade(InkOfLetters x) {
        x.sheet(3, -1, 0);
        return x.film(0, 3, 2);
    }

    private static void inThought() {
        C.of("promises 20 to 25, in thought");
        InkOfLetters x = three();
        x.image();
        x.film(0, 1, 1);
        x.judge(0, 1, 1);
        x.kinds(0, 1, 1, 0);
        x.kinds(0, 1, 1, 1);
        x.inks(0, 1, 1, 0, 0);
        x.inks(0, 1, 1, 1, 0);
        x.whose(0, 1);
        x.laws(0, 1, 1);
        int[][] due = {{50, 15, 0, 0, 1}, {0, 0, 0, 0, 2}, {10, 30, 0, 0, 4}};
        for (int p = 0; p < 3; p++) {
            for (int what = 0; what < 5; what++) {
                C.due("told(" + p + ", " + what + ")", x.told(p, what), due[p][what]);
            }
        }
        C.due("day", x.count(1), 0);
        C.due("law", x.count(4), 0);
    }
}
