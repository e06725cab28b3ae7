import java.util.Arrays;
import java.util.List;
import java.util.Map;
import java.util.TreeSet;
import java.util.function.Supplier;
import java.util.function.ToLongFunction;

/**
 * What is refused, and what is asked, changes nothing; what is done changes what its promise tells
 * and nothing else. Each call is made on an object of its own; Probe tells all that it holds.
 */
public final class UnchangedTest {
    private static final Checks C = new Checks();
    private static final long NO = -4611686018427387904L;
    private static final int[] FAR = {
        Integer.MIN_VALUE, Integer.MIN_VALUE + 1, Integer.MAX_VALUE - 1, Integer.MAX_VALUE,
    };

    private static Supplier<InkOfLetters> setup;
    private static Map<String, Long> before;

    public static void main(String[] args) {
        set(UnchangedTest::half);
        writersRefused();
        lettersRefused();
        postsRefused();
        bestRefused();
        toldRefused();
        lotsRefused();
        hostRefused();
        asked();
        writersChange();
        lettersChange();
        imageChanges();
        sheetsChange();
        writersByChanges();
        set(UnchangedTest::full);
        fullRefused();
        set(InkOfLetters::new);
        emptyRefused();
        C.end();
    }

    /**
     * Three writers by text 1 on day 7; there is an image of day 3 and text 0, and a begun text.
     * Tones 31, -20, 11; inks 35, 45, 0; 1 is mixed in 0's, too. Of the post the third can't.
     */
    private static InkOfLetters half() {
        InkOfLetters x = Checks.bureau(34, 40, 30, 17, -20, 50, 5, 11, 0);
        x.dawn(3);
        Checks.text(x, "boils 100;yields day;costs 10;");
        Checks.text(x, "boils 50;yields 20;costs 9;");
        x.image();
        x.force(1);
        x.dawn(7);
        x.borrow(0, 1);
        Checks.feed(x, Probe.BEGUN);
        Checks.sheet(x, 0, 2, 1, 12, 20);
        Checks.sheet(x, 1, 0, 7, -8, 9);
        Checks.sheet(x, 3, 1, -5, 14, 3, 60);
        return x;
    }

    /** Seven writers, six texts, 160 bytes, the last day, a sheet of forty letters; no image. */
    private static InkOfLetters full() {
        InkOfLetters x = new InkOfLetters();
        for (int p = 0; p < 7; p++) {
            x.writer(10 * (p % 6) + p, 9 * p, 99 - p);
        }
        for (int t = 1; t < 6; t++) {
            Checks.text(x, "boils 1" + t + ";yields 2" + t + ";costs 3" + t + ";");
        }
        for (int i = 0; i < 32; i++) {
            x.feed(5, 'b', 'o', 'i', 'l', 's');
        }
        x.dawn(999);
        x.sheet(0, 0, 40);
        for (int i = 0; i < 40; i++) {
            x.cell(0, i, 1);
        }
        x.sheet(1, 0, 0);
        Checks.sheet(x, 2, 1, 5, 6, 7);
        return x;
    }

    private static void set(Supplier<InkOfLetters> made) {
        setup = made;
        before = Probe.of(made);
    }

    private static List<String> changesBy(ToLongFunction<InkOfLetters> call) {
        return Probe.changes(before, Probe.of(() -> {
            InkOfLetters x = setup.get();
            call.applyAsLong(x);
            return x;
        }));
    }

    private static void refused(String told, ToLongFunction<InkOfLetters> call, long due) {
        C.due(told, call.applyAsLong(setup.get()), due);
        C.due("what changed by " + told, changesBy(call).toString(), "[]");
    }

    private static void asks(String told, ToLongFunction<InkOfLetters> call) {
        InkOfLetters x = setup.get();
        C.due("asked again, " + told, call.applyAsLong(x), call.applyAsLong(x));
        C.due("what changed by " + told, changesBy(call).toString(), "[]");
    }

    private static void changes(String told, ToLongFunction<InkOfLetters> call, long due, String... changes) {
        C.due(told, call.applyAsLong(setup.get()), due);
        TreeSet<String> got = new TreeSet<>(changesBy(call));
        C.due("what changed by " + told, got.toString(), new TreeSet<>(Arrays.asList(changes)).toString());
    }

    private static void writersRefused() {
        C.of("promises 2 to 10, refused");
        refused("count(-1)", x -> x.count(-1), -2);
        refused("count(6)", x -> x.count(6), -2);
        refused("dawn(-1)", x -> x.dawn(-1), -2);
        refused("dawn(1000)", x -> x.dawn(1000), -2);
        refused("feed of 0", x -> x.feed(0, 1, 1, 1, 1, 1), -2);
        refused("feed of 6", x -> x.feed(6, 1, 1, 1, 1, 1), -2);
        refused("force(-1)", x -> x.force(-1), -2);
        refused("force(3)", x -> x.force(3), -2);
        refused("asks(-1, 0)", x -> x.asks(-1, 0), -1000);
        refused("asks(3, 0)", x -> x.asks(3, 0), -1000);
        refused("asks(0, -1)", x -> x.asks(0, -1), -1000);
        refused("asks(0, 3)", x -> x.asks(0, 3), -1000);
        refused("writer(-1, 0, 0)", x -> x.writer(-1, 0, 0), -2);
        refused("writer(60, 0, 0)", x -> x.writer(60, 0, 0), -2);
        refused("writer(0, -100, 0)", x -> x.writer(0, -100, 0), -2);
        refused("writer(0, 100, 0)", x -> x.writer(0, 100, 0), -2);
        refused("writer(0, 0, -1)", x -> x.writer(0, 0, -1), -2);
        refused("writer(0, 0, 100)", x -> x.writer(0, 0, 100), -2);
        refused("put(-1, 0, 5)", x -> x.put(-1, 0, 5), -5000);
        refused("put(3, 0, 5)", x -> x.put(3, 0, 5), -5000);
        refused("put(0, -1, 5)", x -> x.put(0, -1, 5), -7000);
        refused("put(0, 2, 5)", x -> x.put(0, 2, 5), -7000);
        refused("put(0, 0, -100)", x -> x.put(0, 0, -100), -7000);
        refused("put(0, 0, 100)", x -> x.put(0, 0, 100), -7000);
        refused("put(0, 1, -1)", x -> x.put(0, 1, -1), -7000);
        refused("put(0, 1, 100)", x -> x.put(0, 1, 100), -7000);
        refused("told(-1, 0)", x -> x.told(-1, 0), -5000);
        refused("told(3, 0)", x -> x.told(3, 0), -5000);
        refused("told(0, -1)", x -> x.told(0, -1), -7000);
        refused("told(0, 9)", x -> x.told(0, 9), -7000);
        for (int v : new int[] {-1, 256, FAR[0], FAR[3]}) {
            refused("feed of byte " + v, x -> x.feed(1, v, 1, 1, 1, 1), -2);
            refused("feed of second byte " + v, x -> x.feed(1, 1, v, 1, 1, 1), -2);
            refused("feed of third byte " + v, x -> x.feed(1, 1, 1, v, 1, 1), -2);
            refused("feed of fourth byte " + v, x -> x.feed(1, 1, 1, 1, v, 1), -2);
            refused("feed of fifth byte " + v, x -> x.feed(5, 1, 1, 1, 1, v), -2);
        }
        for (int v : FAR) {
            refused("count " + v, x -> x.count(v), -2);
            refused("dawn " + v, x -> x.dawn(v), -2);
            refused("feed n " + v, x -> x.feed(v, 1, 1, 1, 1, 1), -2);
            refused("force " + v, x -> x.force(v), -2);
            refused("asks part " + v, x -> x.asks(v, 0), -1000);
            refused("asks p " + v, x -> x.asks(0, v), -1000);
            refused("writer kindMore " + v, x -> x.writer(v, 0, 0), -2);
            refused("writer tone " + v, x -> x.writer(0, v, 0), -2);
            refused("writer ink " + v, x -> x.writer(0, 0, v), -2);
            refused("put p " + v, x -> x.put(v, 0, 0), -5000);
            refused("put what " + v, x -> x.put(0, v, 0), -7000);
            refused("put tone " + v, x -> x.put(0, 0, v), -7000);
            refused("put ink " + v, x -> x.put(0, 1, v), -7000);
            refused("told p " + v, x -> x.told(v, 0), -5000);
            refused("told what " + v, x -> x.told(0, v), -7000);
        }
    }

    private static void lettersRefused() {
        C.of("promises 11 to 13, refused");
        refused("write(-1, 0)", x -> x.write(-1, 0), -5000);
        refused("write(3, 0)", x -> x.write(3, 0), -5000);
        refused("write(0, -1)", x -> x.write(0, -1), -5000);
        refused("write(0, 3)", x -> x.write(0, 3), -5000);
        refused("write(0, 0)", x -> x.write(0, 0), -5000);
        refused("write(2, 0) without ink", x -> x.write(2, 0), -6000);
        refused("borrow(-1, 0)", x -> x.borrow(-1, 0), -5000);
        refused("borrow(3, 0)", x -> x.borrow(3, 0), -5000);
        refused("borrow(0, -1)", x -> x.borrow(0, -1), -5000);
        refused("borrow(0, 3)", x -> x.borrow(0, 3), -5000);
        refused("borrow(1, 1)", x -> x.borrow(1, 1), -5000);
        refused("borrow(0, 2), of no ink", x -> x.borrow(0, 2), 35);
        refused("water(-1, 5)", x -> x.water(-1, 5), -5000);
        refused("water(3, 5)", x -> x.water(3, 5), -5000);
        refused("water(0, -1)", x -> x.water(0, -1), -7000);
        refused("water(0, 65) to 35", x -> x.water(0, 65), -7000);
        refused("water(2, 100) to 0", x -> x.water(2, 100), -7000);
        refused("water(0, 0)", x -> x.water(0, 0), 31);
        refused("water(2, 0) to no ink", x -> x.water(2, 0), 11);
        for (int v : FAR) {
            refused("write a " + v, x -> x.write(v, 0), -5000);
            refused("write b " + v, x -> x.write(0, v), -5000);
            refused("write both " + v, x -> x.write(v, v), -5000);
            refused("borrow a " + v, x -> x.borrow(v, 0), -5000);
            refused("borrow b " + v, x -> x.borrow(0, v), -5000);
            refused("water p " + v, x -> x.water(v, 0), -5000);
            refused("water much " + v, x -> x.water(0, v), -7000);
        }
    }

    private static void postsRefused() {
        C.of("promises 14, 15, refused");
        refused("post(-1, 0)", x -> x.post(-1, 0), -1002);
        refused("post(4, 0)", x -> x.post(4, 0), -1002);
        refused("post(2, 0), missing", x -> x.post(2, 0), -1011);
        refused("post(3, 0), no letters", x -> x.post(3, 0), -1002);
        refused("post(0, -1)", x -> x.post(0, -1), -7000);
        refused("post(0, 4)", x -> x.post(0, 4), -7000);
        refused("post(0, 9)", x -> x.post(0, 9), -7000);
        refused("post(0, 13)", x -> x.post(0, 13), -7000);
        refused("post(0, 19)", x -> x.post(0, 19), -7000);
        refused("post(0, 23)", x -> x.post(0, 23), -7000);
        refused("deliver(-1)", x -> x.deliver(-1), -2);
        refused("deliver(4)", x -> x.deliver(4), -2);
        refused("deliver(2), missing", x -> x.deliver(2), -11);
        refused("deliver(3), no letters", x -> x.deliver(3), -2);
        for (int v : FAR) {
            refused("post s " + v, x -> x.post(v, 0), -1002);
            refused("post what " + v, x -> x.post(0, v), -7000);
            refused("deliver " + v, x -> x.deliver(v), -2);
        }
    }

    private static void bestRefused() {
        C.of("promises 16 to 19, refused");
        refused("whom(-1, 0)", x -> x.whom(-1, 0), -5000);
        refused("whom(3, 0)", x -> x.whom(3, 0), -5000);
        refused("whom(0, -1)", x -> x.whom(0, -1), -7000);
        refused("whom(0, 2)", x -> x.whom(0, 2), -7000);
        refused("whom(2, 0) without ink", x -> x.whom(2, 0), -1);
        refused("chain(-1, 0, 1, 0)", x -> x.chain(-1, 0, 1, 0), -5000);
        refused("chain(3, 0, 1, 0)", x -> x.chain(3, 0, 1, 0), -5000);
        refused("chain(0, -1, 1, 0)", x -> x.chain(0, -1, 1, 0), -5000);
        refused("chain(0, 3, 1, 0)", x -> x.chain(0, 3, 1, 0), -5000);
        refused("chain(1, 1, 1, 0)", x -> x.chain(1, 1, 1, 0), -5000);
        refused("chain(0, 1, 0, 0)", x -> x.chain(0, 1, 0, 0), -7000);
        refused("chain(0, 1, 5, 0)", x -> x.chain(0, 1, 5, 0), -7000);
        refused("chain(0, 1, 1, -1)", x -> x.chain(0, 1, 1, -1), -7000);
        refused("chain(0, 1, 1, 2)", x -> x.chain(0, 1, 1, 2), -7000);
        refused("chain(2, 1, 4, 0) without ink", x -> x.chain(2, 1, 4, 0), -1);
        refused("who(-1)", x -> x.who(-1), -2);
        refused("who(3)", x -> x.who(3), -2);
        refused("mean(-1)", x -> x.mean(-1), NO);
        refused("mean(2)", x -> x.mean(2), NO);
        for (int v : FAR) {
            refused("whom a " + v, x -> x.whom(v, 0), -5000);
            refused("whom what " + v, x -> x.whom(0, v), -7000);
            refused("chain a " + v, x -> x.chain(v, 0, 1, 0), -5000);
            refused("chain b " + v, x -> x.chain(0, v, 1, 0), -5000);
            refused("chain letters " + v, x -> x.chain(0, 1, v, 0), -7000);
            refused("chain what " + v, x -> x.chain(0, 1, 1, v), -7000);
            refused("who " + v, x -> x.who(v), -2);
            refused("mean " + v, x -> x.mean(v), NO);
        }
    }

    /** What judge() refuses, and its like, each by the number that is due there. */
    private static void toldRefused(int s, int told, int p, int due) {
        String all = "(" + s + ", " + told + ", " + p + ")";
        refused("judge" + all, x -> x.judge(s, told, p), due);
        refused("kinds" + all, x -> x.kinds(s, told, p, 0), due);
        refused("inks" + all, x -> x.inks(s, told, p, 0, 0), due - 1000);
        refused("laws" + all, x -> x.laws(s, told, p), due);
        if (due != -5) {
            refused("whose" + all, x -> x.whose(s, told), due);
        }
    }

    private static void toldRefused() {
        C.of("promises 20 to 25, refused");
        toldRefused(0, -1, 0, -2);
        toldRefused(0, 4, 0, -2);
        toldRefused(-1, 1, 0, -2);
        toldRefused(4, 1, 0, -2);
        toldRefused(2, 1, 0, -11);
        toldRefused(3, 1, 0, -2);
        toldRefused(0, 2, 0, -11);
        toldRefused(0, 3, 0, -2);
        toldRefused(0, 1, -1, -5);
        toldRefused(0, 1, 3, -5);
        refused("kinds sort -1", x -> x.kinds(0, 1, 0, -1), -7);
        refused("kinds sort 2", x -> x.kinds(0, 1, 0, 2), -7);
        refused("inks sort -1", x -> x.inks(0, 1, 0, -1, 0), -7000);
        refused("inks sort 2", x -> x.inks(0, 1, 0, 2, 0), -7000);
        refused("inks what -1", x -> x.inks(0, 1, 0, 0, -1), -7000);
        refused("inks what 2", x -> x.inks(0, 1, 0, 0, 2), -7000);
        refused("film(0, -1, 0)", x -> x.film(0, -1, 0), -2);
        refused("film(0, 4, 0)", x -> x.film(0, 4, 0), -2);
        refused("film(0, 0, 0)", x -> x.film(0, 0, 0), -2);
        refused("film(-1, 1, 0)", x -> x.film(-1, 1, 0), -2);
        refused("film(4, 1, 0)", x -> x.film(4, 1, 0), -2);
        refused("film(2, 1, 0), missing", x -> x.film(2, 1, 0), -11);
        refused("film(3, 1, 0), no letters", x -> x.film(3, 1, 0), -2);
        refused("film(0, 1, -1)", x -> x.film(0, 1, -1), -5);
        refused("film(0, 1, 3)", x -> x.film(0, 1, 3), -5);
        for (int v : FAR) {
            toldRefused(0, v, 0, -2);
            toldRefused(v, 1, 0, -2);
            toldRefused(0, 1, v, -5);
            refused("kinds sort " + v, x -> x.kinds(0, 1, 0, v), -7);
            refused("inks sort " + v, x -> x.inks(0, 1, 0, v, 0), -7000);
            refused("inks what " + v, x -> x.inks(0, 1, 0, 0, v), -7000);
            refused("film s " + v, x -> x.film(v, 1, 0), -2);
            refused("film told " + v, x -> x.film(0, v, 0), -2);
            refused("film p " + v, x -> x.film(0, 1, v), -5);
        }
    }

    private static void lotsRefused() {
        C.of("promises 26, 27, refused");
        refused("drawn(-1, 1, 0)", x -> x.drawn(-1, 1, 0), -1000);
        refused("drawn(100000, 1, 0)", x -> x.drawn(100000, 1, 0), -1000);
        refused("drawn(0, -1, 0)", x -> x.drawn(0, -1, 0), -1000);
        refused("drawn(0, 61, 0)", x -> x.drawn(0, 61, 0), -1000);
        refused("drawn(0, 1, -1)", x -> x.drawn(0, 1, -1), -1000);
        refused("drawn(0, 1, 2)", x -> x.drawn(0, 1, 2), -1000);
        refused("odds(-1, 1, 0, 0)", x -> x.odds(-1, 1, 0, 0), NO);
        refused("odds(100000, 1, 0, 0)", x -> x.odds(100000, 1, 0, 0), NO);
        refused("odds(0, 0, 0, 0)", x -> x.odds(0, 0, 0, 0), NO);
        refused("odds(0, 41, 0, 0)", x -> x.odds(0, 41, 0, 0), NO);
        refused("odds(0, 1, -1000, 0)", x -> x.odds(0, 1, -1000, 0), NO);
        refused("odds(0, 1, 1000, 0)", x -> x.odds(0, 1, 1000, 0), NO);
        refused("odds(0, 1, 0, -1)", x -> x.odds(0, 1, 0, -1), NO);
        refused("odds(0, 1, 0, 2)", x -> x.odds(0, 1, 0, 2), NO);
        for (int v : FAR) {
            refused("drawn seed " + v, x -> x.drawn(v, 1, 0), -1000);
            refused("drawn n " + v, x -> x.drawn(0, v, 0), -1000);
            refused("drawn what " + v, x -> x.drawn(0, 1, v), -1000);
            refused("odds seed " + v, x -> x.odds(v, 1, 0, 0), NO);
            refused("odds seeds " + v, x -> x.odds(0, v, 0, 0), NO);
            refused("odds least " + v, x -> x.odds(0, 1, v, 0), NO);
            refused("odds part " + v, x -> x.odds(0, 1, 0, v), NO);
        }
    }

    private static void hostRefused() {
        C.of("promises 30 to 34, refused");
        refused("sheet(-1, 0, 1)", x -> x.sheet(-1, 0, 1), -2);
        refused("sheet(4, 0, 1)", x -> x.sheet(4, 0, 1), -2);
        refused("sheet(0, -2, 1)", x -> x.sheet(0, -2, 1), -2);
        refused("sheet(0, 3, 1)", x -> x.sheet(0, 3, 1), -2);
        refused("sheet(0, 0, 41)", x -> x.sheet(0, 0, 41), -2);
        refused("sheet(0, 0, -1)", x -> x.sheet(0, 0, -1), -14);
        refused("sheet(2, 0, 41), missing", x -> x.sheet(2, 0, 41), -2);
        refused("sheet(2, 0, -1), missing", x -> x.sheet(2, 0, -1), -14);
        refused("cell(-1, 0, 1)", x -> x.cell(-1, 0, 1), -2);
        refused("cell(4, 0, 1)", x -> x.cell(4, 0, 1), -2);
        refused("cell(2, 0, 1), missing", x -> x.cell(2, 0, 1), -11);
        refused("cell(0, -1, 1)", x -> x.cell(0, -1, 1), -12);
        refused("cell(0, 3, 1)", x -> x.cell(0, 3, 1), -12);
        refused("copy(-1, 0, 0, 0, 1)", x -> x.copy(-1, 0, 0, 0, 1), -2);
        refused("copy(4, 0, 0, 0, 1)", x -> x.copy(4, 0, 0, 0, 1), -2);
        refused("copy(0, 0, -1, 0, 1)", x -> x.copy(0, 0, -1, 0, 1), -2);
        refused("copy(0, 0, 4, 0, 1)", x -> x.copy(0, 0, 4, 0, 1), -2);
        refused("copy(2, 0, 0, 0, 1), missing", x -> x.copy(2, 0, 0, 0, 1), -11);
        refused("copy(0, 0, 2, 0, 1), missing", x -> x.copy(0, 0, 2, 0, 1), -11);
        refused("copy(0, 0, 1, 0, 1), unlike sorts", x -> x.copy(0, 0, 1, 0, 1), -13);
        refused("copy(0, -1, 0, 0, 1)", x -> x.copy(0, -1, 0, 0, 1), -12);
        refused("copy(0, 3, 0, 0, 1)", x -> x.copy(0, 3, 0, 0, 1), -12);
        refused("copy(0, 0, 0, -1, 1)", x -> x.copy(0, 0, 0, -1, 1), -12);
        refused("copy(0, 0, 0, 3, 1)", x -> x.copy(0, 0, 0, 3, 1), -12);
        refused("copy(0, 1, 0, 0, 3)", x -> x.copy(0, 1, 0, 0, 3), -12);
        refused("copy(0, 0, 0, 1, 3)", x -> x.copy(0, 0, 0, 1, 3), -12);
        refused("copy(0, 1, 0, 1, -1)", x -> x.copy(0, 1, 0, 1, -1), -12);
        refused("copy(0, 0, 0, 3, 0), none", x -> x.copy(0, 0, 0, 3, 0), 0);
        refused("writersBy(-1, 0, 0, 1)", x -> x.writersBy(-1, 0, 0, 1), -2);
        refused("writersBy(4, 0, 0, 1)", x -> x.writersBy(4, 0, 0, 1), -2);
        refused("writersBy(3, -1, 1, 1)", x -> x.writersBy(3, -1, 1, 1), -2);
        refused("writersBy(3, 3, 1, 1)", x -> x.writersBy(3, 3, 1, 1), -2);
        refused("writersBy(3, 1, 1, -1)", x -> x.writersBy(3, 1, 1, -1), -2);
        refused("writersBy(3, 1, 1, 8)", x -> x.writersBy(3, 1, 1, 8), -2);
        refused("writersBy(2, 1, 1, 1), missing", x -> x.writersBy(2, 1, 1, 1), -11);
        refused("writersBy(3, 0, 1, 1), another sort", x -> x.writersBy(3, 0, 1, 1), -13);
        refused("writersBy(3, 2, 1, 1), another sort", x -> x.writersBy(3, 2, 1, 1), -13);
        refused("writersBy(3, 1, -1, 1)", x -> x.writersBy(3, 1, -1, 1), -12);
        refused("writersBy(3, 1, 2, 1)", x -> x.writersBy(3, 1, 2, 1), -12);
        refused("writersBy(3, 1, 4, 1)", x -> x.writersBy(3, 1, 4, 1), -12);
        refused("writersBy(3, 1, 0, 1), left out", x -> x.writersBy(3, 1, 0, 1), 0);
        refused("writersBy(3, 1, 1, 0), none", x -> x.writersBy(3, 1, 1, 0), 0);
        refused("taken(0, -1)", x -> x.taken(0, -1), -200);
        refused("taken(0, 7)", x -> x.taken(0, 7), -200);
        refused("taken(-1, 0)", x -> x.taken(-1, 0), -1200);
        refused("taken(14, 0)", x -> x.taken(14, 0), -1200);
        refused("taken(3, 0)", x -> x.taken(3, 0), -1100);
        refused("taken(10, 6)", x -> x.taken(10, 6), -1100);
        refused("taken(0, 2)", x -> x.taken(0, 2), -1300);
        refused("taken(0, 6)", x -> x.taken(0, 6), -1300);
        refused("taken(7, 0)", x -> x.taken(7, 0), -1300);
        for (int v : FAR) {
            refused("sheet s " + v, x -> x.sheet(v, 0, 1), -2);
            refused("sheet sort " + v, x -> x.sheet(0, v, 1), -2);
            refused("sheet n " + v, x -> x.sheet(0, 0, v), v < 0 ? -14 : -2);
            refused("cell s " + v, x -> x.cell(v, 0, 1), -2);
            refused("cell i " + v, x -> x.cell(0, v, 1), -12);
            refused("copy s " + v, x -> x.copy(v, 0, 0, 0, 1), -2);
            refused("copy i " + v, x -> x.copy(0, v, 0, 0, 1), -12);
            refused("copy other " + v, x -> x.copy(0, 0, v, 0, 1), -2);
            refused("copy j " + v, x -> x.copy(0, 0, 0, v, 1), -12);
            refused("copy n " + v, x -> x.copy(0, 1, 0, 1, v), -12);
            refused("copy all " + v, x -> x.copy(0, v, 0, v, v), -12);
            refused("writersBy s " + v, x -> x.writersBy(v, 1, 1, 1), -2);
            refused("writersBy sort " + v, x -> x.writersBy(3, v, 1, 1), -2);
            refused("writersBy from " + v, x -> x.writersBy(3, 1, v, 7), -12);
            refused("writersBy n " + v, x -> x.writersBy(3, 1, 1, v), -2);
            refused("taken i " + v, x -> x.taken(v, 0), -1200);
            refused("taken kind " + v, x -> x.taken(0, v), -200);
        }
    }

    private static void asked() {
        C.of("what is asked changes nothing");
        for (int w = 0; w < 9; w++) {
            int what = w;
            asks("told(0, " + what + ")", x -> x.told(0, what));
            asks("count(" + what % 6 + ")", x -> x.count(what % 6));
            asks("who(" + what % 3 + ")", x -> x.who(what % 3));
            asks("asks(" + what % 3 + ", 1)", x -> x.asks(what % 3, 1));
        }
        for (int what : new int[] {0, 1, 2, 3, 10, 11, 12, 20, 21, 22}) {
            asks("post(0, " + what + ")", x -> x.post(0, what));
        }
        for (int w = 0; w < 2; w++) {
            int what = w;
            asks("whom(0, " + what + ")", x -> x.whom(0, what));
            asks("chain(0, 2, 4, " + what + ")", x -> x.chain(0, 2, 4, what));
            asks("chain(1, 0, 1, " + what + ")", x -> x.chain(1, 0, 1, what));
            asks("mean(" + what + ")", x -> x.mean(what));
            asks("kinds(0, 1, 1, " + what + ")", x -> x.kinds(0, 1, 1, what));
            asks("inks(0, 1, 1, 0, " + what + ")", x -> x.inks(0, 1, 1, 0, what));
            asks("inks(0, 1, 1, 1, " + what + ")", x -> x.inks(0, 1, 1, 1, what));
            asks("drawn(5, 60, " + what + ")", x -> x.drawn(5, 60, what));
            asks("odds(99999, 40, 30, " + what + ")", x -> x.odds(99999, 40, 30, what));
        }
        for (int q = 0; q < 3; q++) {
            int p = q;
            asks("judge(0, 1, " + p + ")", x -> x.judge(0, 1, p));
            asks("judge(0, 0, " + p + ")", x -> x.judge(0, 0, p));
            asks("laws(0, 1, " + p + ")", x -> x.laws(0, 1, p));
            asks("taken(" + p + ", 0)", x -> x.taken(p, 0));
            asks("taken(7 + " + p + ", 6)", x -> x.taken(7 + p, 6));
        }
        asks("whose(0, 1)", x -> x.whose(0, 1));
    }

    private static void writersChange() {
        C.of("promises 3 to 9, what changes");
        changes("dawn(10)", x -> x.dawn(10), 7, "count(1) = 10", "told(0, 6) = 3", "told(0, 7) = 1",
                "told(1, 6) = 10", "told(2, 6) = 10", "by text 1 asks(1, 0) = 10",
                "by text 1 asks(1, 1) = 10", "by text 1 asks(1, 2) = 10");
        changes("feed of 2", x -> x.feed(2, 'e', 'l', 'd', 's', ' '), 13, "count(5) = 13",
                "back: count(5) = 13", "tape: text() = -109", "tape: asks(0, 0) = 100",
                "tape: asks(1, 0) = 7", "tape: asks(2, 0) = 10");
        changes("text() with a fault", x -> x.text(), -109, "count(5) = 0", "back: count(5) = 0",
                "tape: text() = -100", "tape: asks(0, 0) = 100", "tape: asks(1, 0) = 7",
                "tape: asks(2, 0) = 10");
        changes("text() that stands", x -> Checks.text(x, "elds 17;costs who;"), 3, "count(3) = 4",
                "count(5) = 0", "back: count(3) = 4", "back: count(5) = 0", "by text 3 asks(0, 0) = 37",
                "by text 3 asks(1, 0) = 17", "by text 3 asks(2, 0) = 0", "by text 3 asks(0, 1) = 37",
                "by text 3 asks(1, 1) = 17", "by text 3 asks(2, 1) = 1", "by text 3 asks(0, 2) = 37",
                "by text 3 asks(1, 2) = 17", "by text 3 asks(2, 2) = 2", "tape: text() = -100",
                "tape: asks(0, 0) = 100", "tape: asks(1, 0) = 7", "tape: asks(2, 0) = 10");
        changes("force(2)", x -> x.force(2), 1, "count(4) = 2", "told(0, 6) = 6", "told(0, 7) = 18",
                "told(1, 6) = 20", "told(1, 7) = 18", "told(2, 6) = 20", "told(2, 7) = 9");
        changes("force(1), again", x -> x.force(1), 1);
        changes("writer(29, -50, 60)", x -> x.writer(29, -50, 60), 3, "count(0) = 4", "count(2) = 140",
                "told(3, 0) = -50", "told(3, 1) = 60", "told(3, 2) = 2", "told(3, 3) = 9",
                "told(3, 4) = 8", "told(3, 5) = -25", "told(3, 6) = 16", "told(3, 7) = 10",
                "told(3, 8) = 8", "by text 0 asks(0, 3) = 50", "by text 0 asks(1, 3) = 20",
                "by text 0 asks(2, 3) = 10", "by text 1 asks(0, 3) = 100", "by text 1 asks(1, 3) = 7",
                "by text 1 asks(2, 3) = 10", "by text 2 asks(0, 3) = 50", "by text 2 asks(1, 3) = 20",
                "by text 2 asks(2, 3) = 9");
        changes("put(0, 0, -50)", x -> x.put(0, 0, -50), 31, "told(0, 0) = -50", "told(0, 5) = -54",
                "told(0, 6) = 7");
        changes("put(2, 1, 33)", x -> x.put(2, 1, 33), 0, "told(2, 1) = 33", "count(2) = 113");
    }

    private static void lettersChange() {
        C.of("promises 11 to 15, what changes");
        changes("write(0, 1)", x -> x.write(0, 1), 35, "count(2) = 67", "told(0, 1) = 15",
                "told(0, 8) = 3", "told(1, 0) = 35", "told(1, 1) = 52", "told(1, 4) = 3",
                "told(1, 5) = 42");
        changes("borrow(1, 0)", x -> x.borrow(1, 0), 50, "told(0, 1) = 30", "told(0, 8) = 3",
                "told(1, 0) = -14", "told(1, 1) = 50", "told(1, 4) = 3", "told(1, 5) = -21");
        changes("water(0, 10)", x -> x.water(0, 10), 24, "count(2) = 90", "told(0, 0) = 24",
                "told(0, 1) = 45", "told(0, 5) = 28");
        changes("deliver(0)", x -> x.deliver(0), 2, "count(1) = 8", "count(2) = 54", "told(0, 1) = 15",
                "told(0, 8) = 7", "told(1, 0) = 35", "told(1, 1) = 32", "told(1, 4) = 3",
                "told(1, 5) = 42", "told(1, 6) = 8", "told(1, 8) = 7", "told(2, 0) = 42",
                "told(2, 1) = 7", "told(2, 4) = 7", "told(2, 5) = 42", "told(2, 6) = 8",
                "by text 1 asks(1, 0) = 8", "by text 1 asks(1, 1) = 8", "by text 1 asks(1, 2) = 8");
    }

    private static void imageChanges() {
        C.of("promises 28, 29, what changes");
        changes("image()", x -> x.image(), 3, "back: count(1) = 7", "back: count(4) = 1",
                "back: told(0, 0) = 31", "back: told(0, 1) = 35", "back: told(0, 4) = 3",
                "back: told(0, 5) = 35", "back: told(0, 6) = 2", "back: told(1, 1) = 45",
                "back: told(1, 6) = 7", "back: told(1, 8) = 3", "back: told(2, 6) = 7");
        changes("back()", x -> x.back(), 3, "count(1) = 3", "count(4) = 0", "told(0, 0) = 40",
                "told(0, 1) = 30", "told(0, 4) = 1", "told(0, 5) = 44", "told(0, 6) = 6",
                "told(1, 1) = 50", "told(1, 6) = 20", "told(1, 8) = 2", "told(2, 6) = 20",
                "by text 1 asks(1, 0) = 3", "by text 1 asks(1, 1) = 3", "by text 1 asks(1, 2) = 3");
        changes("back(), of one that came since", x -> {
            x.writer(0, 9, 9);
            x.write(3, 0);
            x.borrow(1, 3);
            return x.back();
        }, 3, changesBy(x -> x.back()).toArray(new String[0]));
    }

    private static void sheetsChange() {
        C.of("promises 25, 30 to 32, what changes");
        changes("film(0, 1, 1)", x -> x.film(0, 1, 1), 3, "sheet 1 at 0 = 35", "sheet 1 at 1 = 35",
                "sheet 1 at 2 = 35");
        changes("film(0, 2, 2), missing", x -> x.film(0, 2, 2), 3, "sheet 2 of sort 0 = 0",
                "sheet 2 of sort 1 = -13", "sheet 2 of sort 2 = -13", "sheet 2 size = 3",
                "sheet 2 at 0 = 11", "sheet 2 at 1 = 42", "sheet 2 at 2 = 42");
        changes("film(0, 3, 0), four shorts", x -> x.film(0, 3, 0), 3, "sheet 3 of sort 0 = 0",
                "sheet 3 of sort 1 = -13", "sheet 3 size = 3", "sheet 3 at 0 = 31",
                "sheet 3 at 1 = 31", "sheet 3 at 2 = 31", "sheet 3 at 3 gone");
        changes("sheet(2, 1, 2), missing", x -> x.sheet(2, 1, 2), 1, "sheet 2 of sort 0 = -13",
                "sheet 2 of sort 1 = 0", "sheet 2 of sort 2 = -13", "sheet 2 size = 2",
                "sheet 2 at 0 = 0", "sheet 2 at 1 = 0");
        changes("sheet(3, 1, 4), as it is but all 0", x -> x.sheet(3, 1, 4), 1, "sheet 3 at 0 = 0",
                "sheet 3 at 1 = 0", "sheet 3 at 2 = 0", "sheet 3 at 3 = 0");
        changes("sheet(1, 0, 0)", x -> x.sheet(1, 0, 0), 1, "sheet 1 size = 0", "sheet 1 at 0 gone",
                "sheet 1 at 1 gone", "sheet 1 at 2 gone");
        String[] gone = {"sheet 0 of sort 0 = -11", "sheet 0 of sort 1 = -11", "sheet 0 of sort 2 = -11",
            "sheet 0 size = 0", "sheet 0 at 0 gone", "sheet 0 at 1 gone", "sheet 0 at 2 gone"};
        for (int n : new int[] {0, 3, 40, 41, -1, Integer.MAX_VALUE, Integer.MIN_VALUE}) {
            changes("sheet(0, -1, " + n + ")", x -> x.sheet(0, -1, n), 1, gone);
        }
        changes("sheet(2, -1, 5), missing already", x -> x.sheet(2, -1, 5), 1);
        changes("cell(0, 1, -77)", x -> x.cell(0, 1, -77), 1, "sheet 0 at 1 = -77");
        changes("cell(1, 2, 300), its lowest 8 bits", x -> x.cell(1, 2, 300), 1, "sheet 1 at 2 = 44");
        changes("cell(3, 3, 65541), its lowest 16 bits", x -> x.cell(3, 3, 65541), 1, "sheet 3 at 3 = 5");
        changes("copy(0, 0, 0, 1, 2)", x -> x.copy(0, 0, 0, 1, 2), 2, "sheet 0 at 1 = 1",
                "sheet 0 at 2 = 12");
        changes("copy(0, 1, 0, 0, 2)", x -> x.copy(0, 1, 0, 0, 2), 2, "sheet 0 at 0 = 12",
                "sheet 0 at 1 = 20");
    }

    private static void writersByChanges() {
        C.of("promise 33, what changes");
        String[] came = changesBy(x -> x.writer(14, 3, 60)).toArray(new String[0]);
        C.due("what comes", came.length > 10 ? 1 : 0, 1);
        changes("writersBy(3, 1, 1, 1)", x -> x.writersBy(3, 1, 1, 1), 1, came);
        changes("writersBy(3, 1, 1, 2), what stood ahead came", x -> x.writersBy(3, 1, 1, 2), -12, came);
        changes("writersBy(3, 1, 1, 7), what stood ahead came", x -> x.writersBy(3, 1, 1, 7), -12, came);
    }

    private static void fullRefused() {
        C.of("refused where all is full");
        refused("an eighth writer", x -> x.writer(0, 0, 0), -4);
        refused("writer(60, 0, 0), BAD ahead of FULL", x -> x.writer(60, 0, 0), -2);
        refused("a seventh text", x -> x.text(), -4);
        refused("a byte more", x -> x.feed(1, 32, 32, 32, 32, 32), -4);
        refused("a byte that is none, ahead of FULL", x -> x.feed(1, 256, 32, 32, 32, 32), -2);
        refused("deliver(0) on day 999", x -> x.deliver(0), -3);
        refused("deliver(1), of no letters, on day 999", x -> x.deliver(1), -3);
        refused("deliver(2), no post, ahead of STATE", x -> x.deliver(2), -2);
        refused("deliver(3), missing, ahead of STATE", x -> x.deliver(3), -11);
        refused("deliver(4), ahead of STATE", x -> x.deliver(4), -2);
        refused("back() without an image", x -> x.back(), -3);
        refused("writersBy(2, 1, 0, 1), no room", x -> x.writersBy(2, 1, 0, 1), 0);
        refused("cell(0, 40, 1)", x -> x.cell(0, 40, 1), -12);
        refused("cell(1, 0, 1), an empty sheet", x -> x.cell(1, 0, 1), -12);
        refused("copy(0, 1, 0, 0, 40)", x -> x.copy(0, 1, 0, 0, 40), -12);
        refused("copy(1, 0, 0, 0, 1), of an empty sheet", x -> x.copy(1, 0, 0, 0, 1), -12);
        refused("copy(0, 0, 1, 0, 1), to an empty sheet", x -> x.copy(0, 0, 1, 0, 1), -12);
        refused("force(6)", x -> x.force(6), -2);
        refused("told(7, 0)", x -> x.told(7, 0), -5000);
        refused("write(6, 7)", x -> x.write(6, 7), -5000);
        refused("write(7, 6)", x -> x.write(7, 6), -5000);
        refused("water(0, 1) to 99", x -> x.water(0, 1), -7000);
        refused("borrow(0, 1) to 99", x -> x.borrow(0, 1), 99);
        refused("post(0, 17)", x -> x.post(0, 17), -7000);
        refused("post(0, 27)", x -> x.post(0, 27), -7000);
        asks("post(0, 2)", x -> x.post(0, 2));
        asks("post(0, 16)", x -> x.post(0, 16));
        asks("post(0, 26)", x -> x.post(0, 26));
        asks("chain(0, 6, 4, 0)", x -> x.chain(0, 6, 4, 0));
        asks("odds(0, 40, 100, 0)", x -> x.odds(0, 40, 100, 0));
    }

    private static void emptyRefused() {
        C.of("refused where nobody is");
        refused("asks(0, 0)", x -> x.asks(0, 0), -1000);
        refused("put(0, 0, 0)", x -> x.put(0, 0, 0), -5000);
        refused("told(0, 0)", x -> x.told(0, 0), -5000);
        refused("write(0, 1)", x -> x.write(0, 1), -5000);
        refused("borrow(0, 1)", x -> x.borrow(0, 1), -5000);
        refused("water(0, 1)", x -> x.water(0, 1), -5000);
        refused("post(0, 0), missing", x -> x.post(0, 0), -1011);
        refused("deliver(0), missing", x -> x.deliver(0), -11);
        refused("whom(0, 0)", x -> x.whom(0, 0), -5000);
        refused("chain(0, 1, 1, 0)", x -> x.chain(0, 1, 1, 0), -5000);
        refused("who(0)", x -> x.who(0), -1);
        refused("who(1)", x -> x.who(1), -1);
        refused("who(2)", x -> x.who(2), -1);
        refused("mean(0)", x -> x.mean(0), NO);
        refused("mean(1)", x -> x.mean(1), NO);
        refused("judge(0, 1, 0)", x -> x.judge(0, 1, 0), -11);
        refused("film(0, 1, 0)", x -> x.film(0, 1, 0), -11);
        refused("force(1)", x -> x.force(1), -2);
        refused("back()", x -> x.back(), -3);
        refused("taken(0, 0)", x -> x.taken(0, 0), -1100);
        refused("cell(0, 0, 0)", x -> x.cell(0, 0, 0), -11);
        refused("copy(0, 0, 1, 0, 0)", x -> x.copy(0, 0, 1, 0, 0), -11);
        refused("writersBy(0, 0, 0, 0)", x -> x.writersBy(0, 0, 0, 0), -11);
        refused("text() of nothing", x -> x.text(), -100);
    }
}
