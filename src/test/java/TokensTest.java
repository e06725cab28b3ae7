import java.util.List;

/** Promise 5, token by token: what begins one, how long it is, where it can't stand. */
public final class TokensTest {
    private static final Checks C = new Checks();
    private static final String[] TOKENS = {
        "boils", "yields", "costs", "or", "and", "not", "tone", "ink", "mixed", "day", "who", "more",
        "5", "(", ")", ";", "+", "-", "*", "<", "=",
    };
    private static final List<String> NAMES = List.of("tone", "ink", "mixed", "day", "who", "more");
    private static final String REST = ";yields 2;costs 3;";

    public static void main(String[] args) {
        everyByte();
        everyWordAndNumber();
        blanks();
        whereTokensStand();
        endsTooEarly();
        theFirstFault();
        signsBind();
        logic();
        open();
        openInEachPart();
        emptied();
        whatStoodAhead();
        toTheLastByte();
        C.end();
    }

    private static void due(String text, int answer) {
        C.due(text.replace("\n", "\\n"), Checks.text(new InkOfLetters(), text), answer);
    }

    private static void stands(String text) {
        due(text, 1);
    }

    private static void fault(String text, int place) {
        due(text, -100 - place);
    }

    /** Each byte behind a number: "boils 1" is of 7 bytes. */
    private static void everyByte() {
        C.of("a byte that begins no TOKEN; SIGNS, blanks (32, 10)");
        for (int v = 0; v < 256; v++) {
            char c = (char) v;
            String text = "boils 1" + c + REST;
            if (v == 32 || v == 10 || v >= '0' && v <= '9') {
                stands(text);
            } else if ("+-*<=;".indexOf(c) >= 0) {
                fault(text, 8);
            } else {
                fault(text, 7);
            }
        }
        C.of("a byte that begins no TOKEN, behind the text");
        for (int v = 0; v < 256; v++) {
            String text = "boils 1" + REST + (char) v;
            if (v == 32 || v == 10) {
                stands(text);
            } else {
                fault(text, 25);
            }
        }
    }

    private static void everyWordAndNumber() {
        C.of("TOKENS, each as long as can be: a WORD that is neither KEY nor NAME");
        for (String word : TOKENS) {
            if (word.charAt(0) < 'a') {
                continue;
            }
            boolean isName = NAMES.contains(word);
            for (char c = 'a'; c <= 'z'; c++) {
                fault("boils " + word + c + REST, 6);
                fault("boils " + c + word + REST, 6);
            }
            fault("boils " + word.substring(1) + REST, 6);
            fault("boils " + word.substring(0, word.length() - 1) + REST, 6);
            fault("boils " + word + word + REST, 6);
            fault("boils " + Character.toUpperCase(word.charAt(0)) + word.substring(1) + REST, 6);
            due("boils " + word + REST, isName ? 1 : word.equals("not") ? -109 : -106);
        }
        C.of("a NUMBER that is too long");
        stands("boils 0" + REST);
        stands("boils 00" + REST);
        stands("boils 000" + REST);
        stands("boils 9999" + REST);
        stands("boils 0000" + REST);
        fault("boils 00000" + REST, 6);
        fault("boils 10000" + REST, 6);
        fault("boils 99999" + REST, 6);
        fault("boils 4294967297" + REST, 6);
        fault("boils 000000000000000000000000000000000001" + REST, 6);
        fault("boils 1+12345" + REST, 8);
        fault("boils 1 2345" + REST, 8);
        C.of("a WORD ends where no letter, a NUMBER where no digit stands");
        stands("boils 1or 2" + REST);
        stands("boils 1and2" + REST);
        stands("boils(tone)and(ink)" + REST);
        stands("boils not1" + REST);
        fault("boils nottone" + REST, 6);
        fault("boils 1 ortone" + REST, 8);
        fault("boils tone1" + REST, 10);
        fault("boils 1tone" + REST, 7);
    }

    private static void blanks() {
        C.of("blanks (32, 10) may stand between");
        stands("   boils   1   ;   yields   2   ;   costs   3   ;   ");
        stands("\n\nboils\n\n1\n\n;\n\nyields\n\n2\n\n;\n\ncosts\n\n3\n\n;\n\n");
        stands("boils(1);yields(2);costs(3);");
        stands("boils ( 1 ) < - 2 ; yields 2 ; costs 3 ;");
        fault("boi ls 1" + REST, 0);
        fault("boils 1 2" + REST, 8);
        fault("boils to ne" + REST, 6);
    }

    /** Where a ONE must stand, where one stands already, ahead of a text, and behind it. */
    private static void whereTokensStand() {
        C.of("the first TOKEN that can't stand there");
        for (String token : TOKENS) {
            char c = token.charAt(0);
            boolean isOne = NAMES.contains(token) || token.equals("5");
            boolean opens = token.equals("(") || token.equals("-");
            boolean joins = token.equals("or") || token.equals("and") || "+-*<=".indexOf(c) >= 0;
            String one = token.equals("(") ? "( 1 )" : opens || token.equals("not") ? token + " 1" : token;
            due("boils " + one + REST, isOne || opens || token.equals("not") ? 1 : -106);
            due("boils 1+" + one + REST, isOne || opens ? 1 : -108);
            due("boils 1*" + one + REST, isOne || opens ? 1 : -108);
            due("boils 1<" + one + REST, isOne || opens ? 1 : -108);
            due("boils 1=" + one + REST, isOne || opens ? 1 : -108);
            due("boils -" + one + REST, isOne || opens ? 1 : -107);
            due("boils (" + one + ")" + REST, isOne || opens || token.equals("not") ? 1 : -107);
            due("boils not " + one + REST, isOne || opens || token.equals("not") ? 1 : -110);
            due("boils 1 or " + one + REST, isOne || opens || token.equals("not") ? 1 : -111);
            due("boils 1 and " + one + REST, isOne || opens || token.equals("not") ? 1 : -112);
            due("boils 1 " + token + " 1" + REST, joins ? 1 : token.equals(";") ? -110 : -108);
            due("boils (1 " + token + " 1)" + REST, joins ? 1 : token.equals(")") ? -111 : -109);
            due("boils 1<2 " + token + " 1" + REST, joins && c != '<' && c != '=' ? 1 : token.equals(";") ? -112 : -110);
            due("boils 1=2 " + token + " 1" + REST, joins && c != '<' && c != '=' ? 1 : token.equals(";") ? -112 : -110);
            due(token + " 1;yields 2;costs 3;", token.equals("boils") ? 1 : -100);
            due("boils 1;" + token + " 2;costs 3;", token.equals("yields") ? 1 : -108);
            due("boils 1;yields 2;" + token + " 3;", token.equals("costs") ? 1 : -117);
            fault("boils 1" + REST + token, 25);
        }
    }

    /** Cut off behind each of its bytes: a WORD cut in two is none, a NUMBER cut in two is one. */
    private static void endsTooEarly() {
        C.of("the text's size, if it ends too early");
        String whole = "boils (tone)<-12;yields not ink;costs day*3;";
        for (int n = 0; n < whole.length(); n++) {
            int place = n;
            boolean inside = n > 0 && isLetter(whole.charAt(n - 1)) && isLetter(whole.charAt(n));
            while (inside && place > 0 && isLetter(whole.charAt(place - 1))) {
                place--;
            }
            fault(whole.substring(0, n), place);
        }
        stands(whole);
        C.of("the text's size, if it ends too early, blanks and all");
        fault("", 0);
        fault(" ", 1);
        fault("\n \n", 3);
        fault("boils 1;yields 2;costs 3", 24);
        fault("boils 1;yields 2;costs 3 \n\n", 27);
        fault("boils 1;yields 2;", 17);
        fault("boils 1; ", 9);
    }

    private static boolean isLetter(char c) {
        return c >= 'a' && c <= 'z';
    }

    private static void theFirstFault() {
        C.of("the place of the first byte of the first TOKEN that can't stand");
        fault("boils 1 2 ! 12345 x" + REST, 8);
        fault("boils ! 12345", 6);
        fault("boils 12345 !", 6);
        fault("boils   xyz" + REST, 8);
        fault("boils 1\n  )" + REST, 10);
        fault("costs !", 0);
        fault("boils 1;yields 2;costs 3;  boils", 27);
        fault("boils 1;yields 2;costs 3;;", 25);
        fault("boils 1;yields 2;costs 3;!", 25);
        fault("boils 1;;yields 2;costs 3;", 8);
    }

    /** What an E is, by yields, and by 50 more, so that it may be below 0. */
    private static void value(String e, int due) {
        InkOfLetters x = Checks.bureau(7, -60, 70);
        Checks.law(x, "boils 0;yields 50+(" + e + ");costs 0;");
        C.due(e, x.asks(1, 0) - 50, due);
    }

    private static void signsBind() {
        C.of("SUM, TERM, ONE: which signs bind first, and from the left");
        value("1+2*3", 7);
        value("2*3+1", 7);
        value("(1+2)*3", 9);
        value("9-5-3", 1);
        value("9-(5-3)", 7);
        value("9-5+3", 7);
        value("2*3*4-20", 4);
        value("-2+5", 3);
        value("-2*-3", 6);
        value("-(2+3)*2", -10);
        value("5- -2", 7);
        value("5--2", 7);
        value("---4", -4);
        value("1<2+3", 1);
        value("1+2<3", 0);
        value("1+2<4", 1);
        value("2*3=3+3", 1);
        value("tone+ink", 10);
        value("-tone-ink", -10);
        value("tone<ink", 1);
        value("ink<tone", 0);
        value("more*2-mixed", 13);
        value("-more", -7);
        C.of("a NAME stands for what it tells of the WRITER");
        value("tone+20", -40);
        value("ink-60", 10);
        value("mixed", 1);
        value("day", 0);
        value("who", 0);
        value("more", 7);
    }

    private static void logic() {
        C.of("of or, and, not, <, = 1 or 0 (what is not 0 is true)");
        String[] values = {"0", "1", "7", "-1", "-40"};
        for (String a : values) {
            boolean isA = !a.equals("0");
            value("not " + a, isA ? 0 : 1);
            value("not not " + a, isA ? 1 : 0);
            for (String b : values) {
                boolean isB = !b.equals("0");
                value(a + " or " + b, isA || isB ? 1 : 0);
                value(a + " and " + b, isA && isB ? 1 : 0);
                value("not " + a + " or " + b, !isA || isB ? 1 : 0);
                value("not " + a + " and " + b, !isA && isB ? 1 : 0);
                value("not (" + a + " or " + b + ")", isA || isB ? 0 : 1);
                value(a + "=" + b, a.equals(b) ? 1 : 0);
                value("not " + a + "=" + b, a.equals(b) ? 0 : 1);
                value(a + "<" + b, Integer.parseInt(a) < Integer.parseInt(b) ? 1 : 0);
            }
        }
        value("1 or 0 and 0", 1);
        value("0 and 0 or 1", 1);
        value("0 and (0 or 1)", 0);
        value("1 and 1 and 0", 0);
        value("0 or 0 or 5", 1);
        value("(2 or 0)+(3 and 4)+(not 0)", 3);
        value("(1<2)+(2=2)+(2<1)", 2);
        value("(0 or 0) and not 0 or 0", 0);
    }

    private static void open() {
        C.of("a ( , a not, a - ahead of a ONE while 5 of these are open");
        String[] opens = {"(", "not ", "-"};
        for (String four : new String[] {"((((", "not not not not ", "----", "not -(-", "(-((", "-(not ("}) {
            for (String last : opens) {
                String five = four + last;
                if (five.contains("-not")) {
                    continue;
                }
                stands("boils " + five + "1" + five.replaceAll("[^(]", "").replace('(', ')') + REST);
                for (String sixth : opens) {
                    fault("boils " + five + sixth + "1" + REST, 6 + five.length());
                }
            }
        }
        C.of("a ( till its ) , not and - till what they belong to ends");
        stands("boils (((((1)))))+(((((1)))))*(((((1)))))" + REST);
        stands("boils (((((1))))+(1))" + REST);
        stands("boils ((((1)+(1))+(1))+(1))+(1)" + REST);
        stands("boils (((((1)+(1)))))" + REST);
        fault("boils (((((1+(1))))))" + REST, 13);
        stands("boils -----1*-----1+-----1" + REST);
        stands("boils (((((1))))+-1)" + REST);
        stands("boils ((((-1+-1))))" + REST);
        stands("boils not not not not not 1 and not not not not not 1 or not not not not not 1" + REST);
        stands("boils not not not not -1+-1=-1*-1" + REST);
        fault("boils not not not not not 1+-1" + REST, 28);
        fault("boils not not not not not 1*(1)" + REST, 28);
        fault("boils not not not not not 1<(1)" + REST, 28);
        stands("boils not not not not not 1 and (1)" + REST);
        stands("boils not not not not not 1 or -1" + REST);
        fault("boils -----(1)" + REST, 11);
        stands("boils -----1+(1)" + REST);
        stands("boils 1-(((((1)))))" + REST);
        stands("boils 1-----1" + REST);
        stands("boils 1------1" + REST);
        fault("boils 1-------1" + REST, 13);
    }

    private static void openInEachPart() {
        C.of("5 open in each E of a text");
        stands("boils (((((1)))));yields (((((2)))));costs (((((3)))));");
        fault("boils 1;yields ((((((2))))));costs 3;", 20);
        fault("boils 1;yields 2;costs ((((((3))))));", 28);
        fault("boils (((((1)))));yields ------2;costs 3;", 30);
    }

    private static void emptied() {
        C.of("THE TAPE is empty then (by a FAULT, too); FULL ahead of the FAULT, then it stays");
        InkOfLetters x = Checks.bureau(0, 0, 0);
        C.due("a fault", Checks.text(x, "boils 1;yields 2;costs 3"), -124);
        C.due("bytes", x.count(5), 0);
        C.due("the rest is a text of its own", Checks.text(x, ";"), -100);
        C.due("TEXTS", x.count(3), 1);
        for (int t = 1; t < 6; t++) {
            C.due("text", Checks.text(x, "boils " + t + REST), t);
            C.due("bytes", x.count(5), 0);
        }
        Checks.feed(x, "!");
        C.due("FULL ahead of the FAULT", x.text(), -4);
        C.due("bytes", x.count(5), 1);
        C.due("FULL again", x.text(), -4);
        C.due("bytes", x.count(5), 1);
        C.due("one more byte behind it", x.feed(1, 32, 0, 0, 0, 0), 2);
        C.of("a FAULT changes no TEXT");
        InkOfLetters y = Checks.bureau(0, 0, 0);
        Checks.law(y, "boils 31;yields 32;costs 33;");
        C.due("a fault in the last part", Checks.text(y, "boils 61;yields 62;costs 63"), -127);
        C.due("boils", y.asks(0, 0), 31);
        C.due("yields", y.asks(1, 0), 32);
        C.due("costs", y.asks(2, 0), 33);
        C.due("the next one", Checks.text(y, "boils 41;yields 42;costs 43;"), 2);
        y.force(2);
        C.due("boils", y.asks(0, 0), 41);
        C.due("yields", y.asks(1, 0), 42);
        C.due("costs", y.asks(2, 0), 43);
        C.of("a FAULT leaves nothing in the TEXT that comes next");
        for (String ahead : new String[] {"boils 1;yields 2;costs -3", "boils 1;yields 2;costs not not 3",
            "boils 1+1;yields 2*2;costs 3 or 3 or 3;;", "boils -----1;yields -2;costs -3 ! ;"}) {
            InkOfLetters w = Checks.bureau(0, 0, 0);
            C.due(ahead + " has a fault", Checks.text(w, ahead) <= -100 ? 1 : 0, 1);
            C.due("the next one", Checks.law(w, "boils 41;yields 42;costs 43;"), 1);
            C.due("boils", w.asks(0, 0), 41);
            C.due("yields", w.asks(1, 0), 42);
            C.due("costs", w.asks(2, 0), 43);
        }
        C.of("texts of unlike sizes, each as it says");
        InkOfLetters z = Checks.bureau(0, 12, 34);
        Checks.text(z, "boils (tone+ink)*2-ink+1+1+1;yields tone*2;costs ink-1-1;");
        Checks.text(z, "boils 8;yields 9+1;costs 7;");
        int[][] due = {{50, 20, 10}, {61, 24, 32}, {8, 10, 7}};
        for (int t = 0; t < 3; t++) {
            z.force(t);
            for (int part = 0; part < 3; part++) {
                C.due("text " + t + " asks(" + part + ", 0)", z.asks(part, 0), due[t][part]);
            }
        }
    }

    /** A text that is behind a longer one on the tape, and ends where that one's word or number goes on. */
    private static void behind(String ahead, String text, int answer) {
        InkOfLetters x = new InkOfLetters();
        Checks.text(x, ahead);
        C.due(text + ", behind " + ahead, Checks.text(x, text), answer);
    }

    private static void whatStoodAhead() {
        C.of("THE TAPE is empty then: what stood there ahead is no more of a text");
        behind("boils tone;", "boils ton", -106);
        behind("boils tone;", "boils tone", -110);
        behind("boils tones", "boils tone", -110);
        behind("boils mixedandmore", "boils mixed", -111);
        behind("boils 12345", "boils 1234", -110);
        behind("boils 1;yields 2;costs 3;", "boils 1;yields 2;costs 3", -124);
        behind("boils 1;yields 2;costs 3;", "boils 1;yield", -108);
        behind("boils 1;yields 2;costs 3;;", "boils 1;yields 2;costs 3;", 1);
        behind("boils 1;yields 2;costs 3;+", "boils 1;yields 2;costs 3;", 1);
        behind("boils 1;", "", -100);
        behind("boils 1;", "boil", -100);
    }

    private static void toTheLastByte() {
        C.of("THE TAPE of 160 bytes, read to the last of them");
        fault("a".repeat(160), 0);
        fault("boils " + "tone ".repeat(31).substring(0, 154), 11);
        fault("boils " + "1".repeat(154), 6);
        fault("boils" + " ".repeat(154) + "1", 160);
        fault("boils" + " ".repeat(155), 160);
        fault("boils" + " ".repeat(151) + "tone", 160);
        fault("boils" + " ".repeat(151) + "1234", 160);
        fault("boils" + " ".repeat(150) + "12345", 155);
        fault("boils" + " ".repeat(152) + "ton", 157);
        fault("boils" + " ".repeat(154) + "(", 160);
        fault("boils" + " ".repeat(154) + "-", 160);
        fault("boils" + " ".repeat(154) + ")", 159);
        fault("boils 1" + "+1".repeat(76) + "+", 160);
        fault("boils 1" + "+1".repeat(76) + ";", 160);
        fault("boils 1;yields 2;costs 3" + " ".repeat(136), 160);
        stands("boils 1;yields 2;costs 3" + " ".repeat(135) + ";");
        fault("boils 1;yields 2;costs 3;" + " ".repeat(134) + ";", 159);
        C.of("THE TAPE of 160 bytes: as many signs of each sort as there is room for");
        for (String sign : new String[] {"+", "-", "*", " or ", " and "}) {
            StringBuilder e = new StringBuilder("1");
            while (e.length() + sign.length() + 1 <= 160 - "boils 1;yields ;costs 3;".length()) {
                e.append(sign).append("1");
            }
            stands("boils 1;yields " + e + ";costs 3;");
            stands("boils " + e + ";yields 1;costs 3;");
            stands("boils 1;yields 3;costs " + e + ";");
        }
        InkOfLetters x = Checks.bureau(0, 0, 0);
        String e = "0" + "+1".repeat(67);
        C.due("a SUM of 68", Checks.law(x, "boils 1;yields " + e + ";costs 3 ;"), 1);
        C.due("what it says", x.asks(1, 0), 67);
        C.due("what stands behind it", x.asks(2, 0), 3);
    }
}
