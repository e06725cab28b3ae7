import java.util.ArrayList;
import java.util.List;
import java.util.function.ToLongFunction;

/**
 * What was asked ahead does not matter: behind a change, each question is answered as by an object
 * that was never asked anything.
 */
public final class AskedAheadTest {
    private static final Checks C = new Checks();
    private static final List<String> NAMES = new ArrayList<>();
    private static final List<ToLongFunction<InkOfLetters>> QUESTIONS = new ArrayList<>();

    public static void main(String[] args) {
        questions();
        C.of("what is asked changes nothing, nor what is answered later");
        change("writer", x -> x.writer(29, -50, 60));
        change("dawn", x -> x.dawn(10));
        change("force", x -> x.force(1));
        change("put TONE", x -> x.put(0, 0, -71));
        change("put INK", x -> x.put(1, 1, 0));
        change("put INK of all", x -> x.put(0, 1, 0) + x.put(1, 1, 0) + x.put(2, 1, 0));
        change("write", x -> x.write(1, 0));
        change("borrow", x -> x.borrow(2, 0));
        change("water", x -> x.water(0, 9));
        change("deliver", x -> x.deliver(0));
        change("back", x -> x.back());
        change("image", x -> x.image());
        change("cell", x -> x.cell(0, 1, 10));
        change("cell told", x -> x.cell(1, 1, 10));
        change("sheet", x -> x.sheet(1, 0, 0));
        change("film", x -> x.film(0, 1, 2));
        change("text", x -> Checks.text(x, "boils 1;yields 2;costs 3;"));
        C.end();
    }

    private static InkOfLetters made() {
        InkOfLetters x = Checks.bureau(34, 40, 30, 17, -20, 50);
        x.dawn(3);
        Checks.text(x, "boils tone+60;yields day;costs 10;");
        x.image();
        x.dawn(7);
        x.writer(5, 11, 33);
        Checks.sheet(x, 0, 2, 1, 12, 20);
        Checks.sheet(x, 1, 0, 40, 40, 25);
        return x;
    }

    private static void question(String name, ToLongFunction<InkOfLetters> q) {
        NAMES.add(name);
        QUESTIONS.add(q);
    }

    private static void questions() {
        for (int w = 0; w < 6; w++) {
            int what = w;
            question("count(" + what + ")", x -> x.count(what));
        }
        for (int what : new int[] {0, 1, 2, 3, 10, 11, 12, 13, 20, 21, 22, 23}) {
            question("post(0, " + what + ")", x -> x.post(0, what));
        }
        for (int q = 0; q < 4; q++) {
            int p = q;
            question("told(" + p + ", 5)", x -> x.told(p, 5));
            question("told(" + p + ", 6)", x -> x.told(p, 6));
            question("told(" + p + ", 8)", x -> x.told(p, 8));
            question("asks(0, " + p + ")", x -> x.asks(0, p));
            question("whom(" + p + ", 0)", x -> x.whom(p, 0));
            question("whom(" + p + ", 1)", x -> x.whom(p, 1));
            question("chain(" + p + ", 2, 4, 0)", x -> x.chain(p, 2, 4, 0));
            question("chain(" + p + ", 2, 4, 1)", x -> x.chain(p, 2, 4, 1));
            question("judge(0, 1, " + p + ")", x -> x.judge(0, 1, p));
            question("kinds(0, 1, " + p + ", 0)", x -> x.kinds(0, 1, p, 0));
            question("kinds(0, 1, " + p + ", 1)", x -> x.kinds(0, 1, p, 1));
            question("inks(0, 1, " + p + ", 0, 0)", x -> x.inks(0, 1, p, 0, 0));
            question("inks(0, 1, " + p + ", 1, 1)", x -> x.inks(0, 1, p, 1, 1));
            question("laws(0, 1, " + p + ")", x -> x.laws(0, 1, p));
            question("taken(" + p + ", 0)", x -> x.taken(p, 0));
            question("taken(7 + " + p + ", 6)", x -> x.taken(7 + p, 6));
        }
        for (int w = 0; w < 3; w++) {
            int what = w;
            question("who(" + what + ")", x -> x.who(what));
            question("mean(" + what + ")", x -> x.mean(what));
            question("drawn(9, 30, " + what + ")", x -> x.drawn(9, 30, what));
            question("odds(9, 30, 20, " + what + ")", x -> x.odds(9, 30, 20, what));
        }
        question("whose(0, 1)", x -> x.whose(0, 1));
    }

    private static void change(String name, ToLongFunction<InkOfLetters> change) {
        for (int q = 0; q < QUESTIONS.size(); q++) {
            InkOfLetters asked = made();
            for (ToLongFunction<InkOfLetters> ahead : QUESTIONS) {
                ahead.applyAsLong(asked);
            }
            InkOfLetters other = made();
            C.due(name, change.applyAsLong(asked), change.applyAsLong(other));
            C.due(NAMES.get(q) + " behind " + name, QUESTIONS.get(q).applyAsLong(asked), QUESTIONS.get(q).applyAsLong(other));
        }
    }
}
