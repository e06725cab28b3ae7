/** Promises 30 to 34: the host. */
public final class HostTest {
    private static final Checks C = new Checks();

    public static void main(String[] args) {
        sheet();
        cell();
        sorts();
        copy();
        writersBy();
        taken();
        C.end();
    }

    private static void sheet() {
        C.of("promise 30");
        InkOfLetters x = new InkOfLetters();
        C.due("sheet 4", x.sheet(4, 9, -1), -2);
        C.due("sheet -1", x.sheet(-1, 0, 1), -2);
        C.due("sort 3, ahead of n", x.sheet(0, 3, -1), -2);
        C.due("sort -2", x.sheet(0, -2, 1), -2);
        C.due("n 41", x.sheet(0, 0, 41), -2);
        C.due("n -1", x.sheet(0, 0, -1), -14);
        C.due("far below 0", x.sheet(0, 2, Integer.MIN_VALUE), -14);
        C.due("still missing", x.cell(0, 0, 1), -11);
        for (int s = 0; s < 4; s++) {
            C.due("n 40", x.sheet(s, s % 3, 40), 1);
            C.due("its last", x.cell(s, 39, 1), 1);
            C.due("behind it", x.cell(s, 40, 1), -12);
        }
        C.due("n 0", x.sheet(0, 1, 0), 1);
        C.due("nothing in it", x.cell(0, 0, 1), -12);
        C.due("missing, n 41 does not matter", x.sheet(0, -1, 41), 1);
        C.due("missing", x.cell(0, 0, 1), -11);
        C.due("missing, n -5 does not matter", x.sheet(1, -1, -5), 1);
        C.due("missing", x.cell(1, 0, 1), -11);

        InkOfLetters y = new InkOfLetters();
        y.writer(0, 0, 50);
        y.writer(0, 0, 50);
        Checks.sheet(y, 0, 2, 1, 1, 1);
        y.sheet(0, 2, 3);
        y.cell(0, 0, 1);
        C.due("all 0 again: no letters", y.post(0, 0), -1002);
        Checks.sheet(y, 0, 2, 1, 1, 1);
        y.sheet(0, 2, 3);
        for (int i = 0; i < 3; i++) {
            y.sheet(1, 2, 1);
            y.copy(0, i, 1, 0, 1);
            C.due("0 again at " + i, y.post(1, 0), -1002);
        }
    }

    private static void cell() {
        C.of("promise 31");
        InkOfLetters x = new InkOfLetters();
        x.sheet(0, 2, 3);
        C.due("cell(0, 0, 5)", x.cell(0, 0, 5), 1);
        C.due("place -1", x.cell(0, -1, 5), -12);
        C.due("place 3", x.cell(0, 3, 5), -12);
        C.due("place far outside", x.cell(0, Integer.MAX_VALUE, 5), -12);
        C.due("missing, ahead of the place", x.cell(1, -1, 5), -11);
        C.due("sheet 4", x.cell(4, 0, 5), -2);
        C.due("sheet -1", x.cell(-1, 0, 5), -2);
    }

    /** Whether a cell holds a tone is told by judge(), of a post whose letter leaves it as it is. */
    private static void holds(int sort, int v, int tone) {
        InkOfLetters x = new InkOfLetters();
        x.writer(0, tone, 0);
        x.writer(0, 0, 0);
        Checks.sheet(x, 0, 0, 1);
        Checks.sheet(x, 1, sort, v);
        C.due("sort " + sort + ", " + v, x.judge(0, 1, 0), -1);
        x.put(0, 0, tone > 0 ? tone - 1 : tone + 1);
        C.due("sort " + sort + ", " + v, x.judge(0, 1, 0), 0);
    }

    private static void sorts() {
        C.of("promise 31, sorts");
        holds(0, 99, 99);
        holds(0, -99, -99);
        holds(0, 256 + 7, 7);
        holds(0, 255, -1);
        holds(0, 0x7fffff80 + 0x70, -16);
        holds(1, -99, -99);
        holds(1, 65536 + 7, 7);
        holds(1, 65535, -1);
        holds(2, -99, -99);
        InkOfLetters x = new InkOfLetters();
        x.writer(0, 0, 0);
        x.writer(0, 0, 0);
        Checks.sheet(x, 0, 0, 257);
        C.due("257 as a byte is a letter", x.post(0, 0), 0);
        Checks.sheet(x, 0, 1, 257);
        C.due("257 as a short is none", x.post(0, 0), -1002);
        Checks.sheet(x, 0, 1, 65537);
        C.due("65537 as a short is a letter", x.post(0, 0), 0);
        Checks.sheet(x, 0, 2, 65537);
        C.due("65537 as an int is none", x.post(0, 0), -1002);
    }

    /** Tells by judge() whether sheet s holds these tones. */
    private static void row(InkOfLetters x, int s, int... due) {
        for (int i = 0; i < due.length; i++) {
            x.put(0, 0, due[i]);
            x.sheet(2, 2, 1);
            x.copy(s, i, 2, 0, 1);
            C.due("sheet " + s + " at " + i, x.judge(3, 2, 0), -1);
        }
    }

    private static void copy() {
        C.of("promise 32");
        InkOfLetters x = new InkOfLetters();
        x.writer(0, 0, 0);
        x.writer(0, 0, 0);
        Checks.sheet(x, 3, 0, 1);
        Checks.sheet(x, 0, 2, 10, 20, 30, 40);
        Checks.sheet(x, 1, 2, 1, 2, 3);
        C.due("copy(0, 1, 1, 0, 2)", x.copy(0, 1, 1, 0, 2), 2);
        row(x, 1, 20, 30, 3);
        C.due("to itself, forward", x.copy(0, 0, 0, 1, 3), 3);
        row(x, 0, 10, 10, 20, 30);
        C.due("to itself, backward", x.copy(0, 1, 0, 0, 3), 3);
        row(x, 0, 10, 20, 30, 30);
        C.due("none", x.copy(0, 4, 1, 3, 0), 0);
        C.due("none, from outside", x.copy(0, 5, 1, 0, 0), -12);
        C.due("none, to outside", x.copy(0, 0, 1, 4, 0), -12);
        C.due("n -1", x.copy(0, 1, 1, 1, -1), -12);
        C.due("i -1", x.copy(0, -1, 1, 0, 1), -12);
        C.due("j -1", x.copy(0, 0, 1, -1, 1), -12);
        C.due("past the first", x.copy(0, 3, 1, 0, 2), -12);
        C.due("past the other", x.copy(0, 0, 1, 2, 2), -12);
        C.due("all of it and more", x.copy(0, 0, 1, 0, 4), -12);
        C.due("far past", x.copy(0, Integer.MAX_VALUE, 1, 0, 1), -12);
        C.due("far past", x.copy(0, 0, 1, Integer.MAX_VALUE, Integer.MAX_VALUE), -12);
        row(x, 1, 20, 30, 3);
        x.sheet(2, -1, 0);
        C.due("unlike sorts, ahead of places", x.copy(0, -1, 3, 9, -1), -13);
        C.due("missing, ahead of sorts", x.copy(2, -1, 3, 0, 1), -11);
        C.due("the other missing", x.copy(3, -1, 2, 0, 1), -11);
        C.due("sheet 4", x.copy(4, -1, 2, 0, 1), -2);
        C.due("sheet -1", x.copy(2, 0, -1, 0, 1), -2);
    }

    private static void writersBy() {
        C.of("promise 33");
        InkOfLetters x = new InkOfLetters();
        Checks.sheet(x, 0, 0, 9, 14, -99, 99, 60, 0, 0, 59, 99, 0, 7);
        C.due("from 1 on, the second is left out", x.writersBy(0, 0, 1, 3), 2);
        C.due("count(0)", x.count(0), 2);
        C.due("kind", x.told(0, 2), 1);
        C.due("more", x.told(0, 3), 4);
        C.due("tone", x.told(0, 0), -99);
        C.due("ink", x.told(0, 1), 99);
        C.due("kind", x.told(1, 2), 5);
        C.due("mixed", x.told(1, 4), 2);
        C.due("what stood ahead came", x.writersBy(0, 0, 7, 2), -12);
        C.due("count(0)", x.count(0), 3);
        C.due("a row too short for one", x.writersBy(0, 0, 9, 1), -12);
        C.due("behind it", x.writersBy(0, 0, 11, 1), -12);
        C.due("place -1", x.writersBy(0, 0, -1, 1), -12);
        C.due("far outside", x.writersBy(0, 0, Integer.MAX_VALUE, 7), -12);
        C.due("none", x.writersBy(0, 0, 0, 0), 0);
        C.due("n 8", x.writersBy(0, 0, 1, 8), -2);
        C.due("n -1", x.writersBy(0, 0, 1, -1), -2);
        C.due("sort 3", x.writersBy(0, 3, 1, 1), -2);
        C.due("sort -1", x.writersBy(0, -1, 1, 1), -2);
        C.due("sheet 4", x.writersBy(4, 0, 1, 1), -2);
        C.due("sheet -1", x.writersBy(-1, 0, 1, 1), -2);
        C.due("n ahead of a missing sheet", x.writersBy(1, 0, 0, 8), -2);
        C.due("missing", x.writersBy(1, 0, -1, 1), -11);
        C.due("another sort, ahead of the place", x.writersBy(0, 1, -1, 1), -13);
        C.due("count(0)", x.count(0), 3);
        x.sheet(1, 2, 21);
        C.due("four more have room", x.writersBy(1, 2, 0, 7), 4);
        C.due("count(0)", x.count(0), 7);
        C.due("no room", x.writersBy(1, 2, 0, 7), 0);
    }

    private static void taken() {
        C.of("promise 34");
        InkOfLetters x = new InkOfLetters();
        String[] are = {"0", "01", "02", "013", "024", "05"};
        for (int kind = 0; kind < 6; kind++) {
            x.writer(10 * kind, -50 + kind, 0);
        }
        for (int p = 0; p < 6; p++) {
            for (int kind = 0; kind < 6; kind++) {
                C.due("kind " + p + " taken for " + kind, x.taken(p, kind), are[p].indexOf('0' + kind) < 0 ? -1300 : p);
                C.due("a tone taken for " + kind, x.taken(7 + p, kind), -1300);
            }
            C.due("kind " + p + " taken for a tone", x.taken(p, 6), -1300);
            C.due("a tone taken for one", x.taken(7 + p, 6), -50 + p);
        }
        C.due("no seventh", x.taken(6, 0), -1100);
        C.due("no seventh, ahead of sorts", x.taken(6, 6), -1100);
        C.due("no seventh's tone", x.taken(13, 6), -1100);
        C.due("place 14", x.taken(14, 0), -1200);
        C.due("place -1", x.taken(-1, 0), -1200);
        C.due("kind 7, ahead of the place", x.taken(14, 7), -200);
        C.due("kind -1", x.taken(0, -1), -200);
        x.writer(0, 99, 0);
        C.due("a seventh", x.taken(6, 0), 6);
        C.due("a seventh's tone", x.taken(13, 6), 99);
    }
}
