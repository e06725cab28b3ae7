/** Promise 5: what the tape holds is a text, or has a fault. */
public final class TextTest {
    private static final Checks C = new Checks();

    public static void main(String[] args) {
        numbersAndTape();
        values();
        names();
        faults();
        openOnes();
        longest();
        C.end();
    }

    private static void numbersAndTape() {
        C.of("promise 5");
        InkOfLetters x = new InkOfLetters();
        C.due("an empty tape", x.text(), -100);
        Checks.feed(x, "boils 1;");
        C.due("a text that ends too early", x.text(), -108);
        C.due("the tape is empty, by a fault too", x.count(5), 0);
        C.due("no text came", x.count(3), 1);
        for (int t = 1; t < 6; t++) {
            C.due("text " + t, Checks.text(x, "boils " + t + ";yields 2;costs 3;"), t);
            C.due("the tape is empty", x.count(5), 0);
        }
        C.due("a seventh, ahead of its fault", Checks.text(x, "no"), -4);
        C.due("the tape stays", x.count(5), 2);
        x.writer(0, 0, 0);
        for (int t = 1; t < 6; t++) {
            x.force(t);
            C.due("what text " + t + " boils", x.asks(0, 0), t);
        }
        InkOfLetters y = new InkOfLetters();
        Checks.text(y, "boils 1;yields 2;costs 3");
        C.due("a text behind a fault", Checks.text(y, "boils 4;yields 5;costs 6;"), 1);
        y.force(1);
        y.writer(0, 0, 0);
        C.due("boils", y.asks(0, 0), 4);
        C.due("yields", y.asks(1, 0), 5);
        C.due("costs", y.asks(2, 0), 6);
    }

    /** What an E is, of a writer of tone 0, told by what 50 and it yields. */
    private static void value(String e, int due) {
        InkOfLetters x = new InkOfLetters();
        x.writer(0, 0, 0);
        Checks.law(x, "boils 0;yields 50+(" + e + ");costs 0;");
        C.due(e, x.asks(1, 0) - 50, due);
    }

    private static void values() {
        C.of("what an E is");
        value("2+3*4", 14);
        value("(2+3)*4", 20);
        value("10-4-3", 3);
        value("10-4+3", 9);
        value("2*3*4", 24);
        value("-2*3", -6);
        value("2*-3", -6);
        value("- -7", 7);
        value("--7", 7);
        value("3--7", 10);
        value("-(2+3)", -5);
        value("0-9", -9);
        value("1<2", 1);
        value("2<2", 0);
        value("3<2", 0);
        value("2=2", 1);
        value("2=3", 0);
        value("-3<-2", 1);
        value("1+1<1*3", 1);
        value("1+2=3", 1);
        value("7 and 5", 1);
        value("7 and 0", 0);
        value("0 and 7", 0);
        value("0 or 0", 0);
        value("0 or 9", 1);
        value("9 or 0", 1);
        value("-1 or 0", 1);
        value("not 0", 1);
        value("not 7", 0);
        value("not -7", 0);
        value("not not 7", 1);
        value("not 1=2", 1);
        value("not 2<1 and 1", 1);
        value("not 1 or 1", 1);
        value("not (1 or 1)", 0);
        value("1 or 1 and 0", 1);
        value("(1 or 1) and 0", 0);
        value("0 and 0 or 3", 1);
        value("1 and 1 and 3", 1);
        value("0 or 0 or 3", 1);
        value("3 and 1<2", 1);
        value("(1<2)+(3<4)", 2);
        value("7", 7);
        value("(7)", 7);
        value("0042", 42);
        C.of("an E wraps as 32 bits");
        value("9999*9999*22<0", 1);
        value("9999*9999*43<0", 0);
        value("9999*9999*43-4172*1000", 49);
        value("9999*9999*43-4172*1000-740", 7);
        value("9999*9999*22*2-9999*9999*44", 0);
    }

    private static void names() {
        C.of("names");
        InkOfLetters x = new InkOfLetters();
        x.writer(13, 20, 30);
        x.writer(4, 41, 52);
        x.write(0, 1);
        x.put(1, 0, 41);
        x.put(1, 1, 52);
        x.dawn(37);
        int t = Checks.text(x, "boils tone;yields ink;costs mixed;");
        x.force(t);
        C.due("tone", x.asks(0, 1), 41);
        C.due("ink", x.asks(1, 1), 52);
        C.due("mixed", x.asks(2, 1), 2);
        C.due("mixed of oneself alone", x.asks(2, 0), 1);
        t = Checks.text(x, "boils day;yields who;costs more;");
        x.force(t);
        C.due("day", x.asks(0, 1), 37);
        C.due("who", x.asks(1, 1), 1);
        C.due("who 0", x.asks(1, 0), 0);
        C.due("more", x.asks(2, 1), 4);
        C.due("more", x.asks(2, 0), 3);
    }

    private static void fault(String text, int place) {
        InkOfLetters x = new InkOfLetters();
        C.due(text.replace("\n", "\\n"), Checks.text(x, text), -100 - place);
    }

    private static void stands(String text) {
        C.due(text.replace("\n", "\\n"), Checks.text(new InkOfLetters(), text), 1);
    }

    private static void faults() {
        C.of("a text that stands");
        stands("boils 50 ; yields 20 ; costs 10 ;  ");
        stands("boils50;yields20;costs10;");
        stands("\n boils\n5\n;yields(2)\n;costs-1;\n");
        stands("boils(1)and(2)or not(3);yields tone*-ink;costs who<day;");
        C.of("a fault");
        fault(" ", 1);
        fault("yields 5;boils 5;costs 5;", 0);
        fault("boils 5;costs 5;yields 5;", 8);
        fault("boils 5;yields 5;costs 5", 24);
        fault("boils 5;yields 5;costs 5 \n ", 27);
        fault("boils 5;yields 5;costs 5;;", 25);
        fault("boils 5;yields 5;costs 5; boils", 26);
        fault("boils;yields 5;costs 5;", 5);
        fault("boil 5;yields 5;costs 5;", 0);
        fault("boilss 5;yields 5;costs 5;", 0);
        fault("boilsyields 5;yields 5;costs 5;", 0);
        fault("Boils 5;yields 5;costs 5;", 0);
        fault("boils tones;yields 5;costs 5;", 6);
        fault("boils ton;yields 5;costs 5;", 6);
        fault("boils e;yields 5;costs 5;", 6);
        fault("boils yields;yields 5;costs 5;", 6);
        fault("boils and;yields 5;costs 5;", 6);
        fault("boils tone5;yields 5;costs 5;", 10);
        fault("boils 5tone;yields 5;costs 5;", 7);
        fault("boils 5 5;yields 5;costs 5;", 8);
        fault("boils 12345;yields 5;costs 5;", 6);
        fault("boils 00001;yields 5;costs 5;", 6);
        fault("boils 9999;yields 5;costs 12345;", 26);
        fault("boils 1+;yields 5;costs 5;", 8);
        fault("boils +1;yields 5;costs 5;", 6);
        fault("boils 1+*2;yields 5;costs 5;", 8);
        fault("boils 1<2<3;yields 5;costs 5;", 9);
        fault("boils 1=2<3;yields 5;costs 5;", 9);
        fault("boils 1+not 2;yields 5;costs 5;", 8);
        fault("boils -not 2;yields 5;costs 5;", 7);
        fault("boils 1<not 2;yields 5;costs 5;", 8);
        fault("boils 1 not 2;yields 5;costs 5;", 8);
        fault("boils not;yields 5;costs 5;", 9);
        fault("boils ();yields 5;costs 5;", 7);
        fault("boils (1;yields 5;costs 5;", 8);
        fault("boils 1);yields 5;costs 5;", 7);
        fault("boils (1 2);yields 5;costs 5;", 9);
        fault("boils 1 or;yields 5;costs 5;", 10);
        fault("boils 1 or or 2;yields 5;costs 5;", 11);
        fault("boils 1,2;yields 5;costs 5;", 7);
        fault("boils\t1;yields 5;costs 5;", 5);
        fault("boils 1\r;yields 5;costs 5;", 7);
        fault("boils 1;yields 5;costs 5;\0", 25);
        fault("boils 1;yields 5;costs \u00e9;", 23);
        fault("boils 1;yields 5;costs 5;\u00ff", 25);
        fault("boils 1>2;yields 5;costs 5;", 7);
        for (String sign : new String[] {"or", "and", "<", "=", "+", "-", "*"}) {
            fault("boils 1 " + sign + ";yields 5;costs 5;", 8 + sign.length());
            fault("boils (1 " + sign + ");yields 5;costs 5;", 9 + sign.length());
            fault("boils 1 " + sign, 8 + sign.length());
        }
        for (String ahead : new String[] {"not", "-", "("}) {
            fault("boils " + ahead + ";yields 5;costs 5;", 6 + ahead.length());
            fault("boils (" + ahead + ");yields 5;costs 5;", 7 + ahead.length());
        }
        fault("boils tonez;yields 5;costs 5;", 6);
        fault("boils atone;yields 5;costs 5;", 6);
        fault("boils 1`;yields 5;costs 5;", 7);
        fault("boils 1{;yields 5;costs 5;", 7);
        fault("boils 1/;yields 5;costs 5;", 7);
        fault("boils 1:;yields 5;costs 5;", 7);
        fault("boils 5", 7);
        fault("boils (", 7);
        fault("boils -", 7);
        fault("boils", 5);
    }

    private static void openOnes() {
        C.of("five open ones");
        stands("boils (((((1)))));yields 2;costs 3;");
        fault("boils ((((((1))))));yields 2;costs 3;", 11);
        stands("boils -----1;yields 2;costs 3;");
        fault("boils ------1;yields 2;costs 3;", 11);
        stands("boils not not not not not 1;yields 2;costs 3;");
        fault("boils not not not not not not 1;yields 2;costs 3;", 26);
        stands("boils not(-(-1));yields 2;costs 3;");
        fault("boils not(-(--1));yields 2;costs 3;", 13);
        fault("boils not(-(-(1)));yields 2;costs 3;", 13);
        stands("boils not(-(-1<-1));yields 2;costs 3;");
        fault("boils not(-(-1<--1));yields 2;costs 3;", 16);
        fault("boils not((((1)))) and (((((not 1)))));yields 2;costs 3;", 28);
        C.of("closed ones are open no longer");
        stands("boils (((((1)))))+(((((1)))));yields (((((1)))));costs (((((1)))));");
        stands("boils -----1*-----1-----1;yields 2;costs 3;");
        stands("boils not -1<-1 and not not not not -1;yields 2;costs 3;");
        stands("boils ((((1-1-1-1-1-1-1-(1)))));yields 2;costs 3;");
        stands("boils not not not not -1 or not not not not not 1;yields 2;costs 3;");
        fault("boils not not not not not 1=-1;yields 2;costs 3;", 28);
        fault("boils not not not not not 1=(1);yields 2;costs 3;", 28);
        fault("boils ((((not 1=(2)))));yields 2;costs 3;", 16);
        stands("boils ((((not 1))=(((2)))));yields 2;costs 3;");
    }

    /** 160 bytes of signs and numbers of one byte: as many tokens as can be. */
    private static void longest() {
        C.of("the longest text");
        StringBuilder s = new StringBuilder("boils 1;yields 0");
        while (s.length() + 2 <= 160 - 8) {
            s.append("+1");
        }
        s.append(";costs7;");
        InkOfLetters x = new InkOfLetters();
        x.writer(0, 0, 0);
        C.due("its bytes", s.length(), 160);
        C.due("it stands", Checks.law(x, s.toString()), 1);
        C.due("yields", x.asks(1, 0), 68);
        C.due("costs", x.asks(2, 0), 7);
    }
}
