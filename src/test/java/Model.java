import java.math.BigInteger;
import java.util.ArrayList;
import java.util.List;
import java.util.function.BiFunction;
import java.util.regex.Matcher;
import java.util.regex.Pattern;

/**
 * The document a second time, written otherwise and with no thought of cost: a tree of functions
 * for a text, copies for all that is in thought. RandomTest holds the program against it.
 */
public final class Model {
    interface Expression {
        int of(Office o, One w);
    }

    static final class One {
        int number, kind, more, tone, ink, mixed;

        One copy() {
            One w = new One();
            w.number = number;
            w.kind = kind;
            w.more = more;
            w.tone = tone;
            w.ink = ink;
            w.mixed = mixed;
            return w;
        }
    }

    static final class Office {
        List<One> all = new ArrayList<>();
        int day, law;
        List<Expression[]> texts;

        Office copy() {
            Office o = new Office();
            for (One w : all) o.all.add(w.copy());
            o.day = day;
            o.law = law;
            o.texts = texts;
            return o;
        }

        int n() { return all.size(); }

        int says(int part, One w) {
            int v = texts.get(law)[part].of(this, w);
            int top = part == 0 ? 100 : 99;
            return v < 0 ? 0 : v > top ? top : v;
        }

        int writes(One w) {
            int v;
            if (w.kind == 1 || w.kind == 3) v = w.tone < 0 ? w.tone - w.more : w.tone + w.more;
            else if (w.kind == 2) v = w.tone / 2;
            else if (w.kind == 4) v = w.tone / 2 < 0 ? -(w.tone / 2) : w.tone / 2;
            else if (w.kind == 5) v = 0 - w.tone;
            else v = w.tone;
            return v < -99 ? -99 : v > 99 ? 99 : v;
        }

        int yields(One w) {
            int said = says(1, w);
            if (w.kind == 2) return said + w.more;
            if (w.kind == 4) return (said + w.more) * 2;
            if (w.kind == 3 && w.tone >= 0) return said / 3;
            return said;
        }

        int costs(One w) {
            int said = says(2, w);
            if (w.kind == 5) return w.more;
            if (w.kind == 3 && day % 5 == 0) return 1;
            if (w.kind == 1 || w.kind == 3) return said + said;
            return said;
        }

        boolean send(int from, int to) {
            One a = all.get(from);
            One b = all.get(to);
            int cost = costs(a);
            if (a.ink == 0 || a.ink < cost) return false;
            int boils = says(0, b);
            int yields = yields(b);
            int tone = b.tone * (100 - boils) + writes(a) * boils;
            tone = tone < 0 ? -(-tone / 100) : tone / 100;
            a.ink = a.ink - cost;
            b.ink = b.ink + yields > 99 ? 99 : b.ink + yields;
            b.tone = tone > 99 ? 99 : tone < -99 ? -99 : tone;
            b.mixed = b.mixed | a.mixed;
            return true;
        }

        int tones() { return all.stream().mapToInt(w -> w.tone).sum(); }

        int inks() { return all.stream().mapToInt(w -> w.ink).sum(); }
    }

    static final class Row {
        int sort;
        int[] v;
    }

    private static final class Fault extends RuntimeException {
        private static final long serialVersionUID = 1L;
        final int place;

        Fault(int place) {
            this.place = place;
        }
    }

    /** A text by levels of signs, the loosest first. */
    private static final class Grammar {
        final String tape;
        final List<String> tokens = new ArrayList<>();
        final List<Integer> places = new ArrayList<>();
        int at = 0;
        int open = 0;

        Grammar(String tape) {
            this.tape = tape;
            Matcher m = Pattern.compile("[a-z]+|[0-9]+|[();+*<=-]|[ \n]+|(?s:.)").matcher(tape);
            while (m.find()) {
                String token = m.group();
                if (token.charAt(0) == ' ' || token.charAt(0) == '\n') continue;
                tokens.add(token);
                places.add(m.start());
            }
        }

        String now() { return at < tokens.size() ? tokens.get(at) : ""; }

        int place() { return at < tokens.size() ? places.get(at) : tape.length(); }

        void must(String token) {
            if (!now().equals(token)) throw new Fault(place());
            at++;
        }

        void deeper() {
            if (open == 5) throw new Fault(place());
            open++;
        }

        Expression[] text() {
            Expression[] parts = new Expression[3];
            String[] keys = {"boils", "yields", "costs"};
            for (int i = 0; i < 3; i++) {
                must(keys[i]);
                parts[i] = level(0);
                must(";");
            }
            if (at < tokens.size()) throw new Fault(place());
            return parts;
        }

        static final String[][] LEVELS = {{"or"}, {"and"}, {"<", "="}, {"+", "-"}, {"*"}};

        boolean isOf(int level) {
            for (String s : LEVELS[level]) if (s.equals(now())) return true;
            return false;
        }

        Expression level(int level) {
            if (level == 2 && now().equals("not")) return not();
            if (level == 5) return one();
            Expression left = level(level + 1);
            while (isOf(level)) {
                String sign = now();
                at++;
                left = joined(sign, left, level(level + 1));
                if (level == 2) break;
            }
            return left;
        }

        Expression not() {
            deeper();
            at++;
            Expression e = level(2);
            open--;
            return (o, w) -> e.of(o, w) == 0 ? 1 : 0;
        }

        Expression one() {
            String token = now();
            if (token.equals("(")) {
                deeper();
                at++;
                Expression e = level(0);
                must(")");
                open--;
                return e;
            }
            if (token.equals("-")) {
                deeper();
                at++;
                Expression e = level(5);
                open--;
                return (o, w) -> -e.of(o, w);
            }
            if (token.matches("[0-9]{1,4}")) {
                int v = Integer.parseInt(token);
                at++;
                return (o, w) -> v;
            }
            Expression name = name(token);
            if (name == null) throw new Fault(place());
            at++;
            return name;
        }

        static Expression name(String token) {
            switch (token) {
                case "tone": return (o, w) -> w.tone;
                case "ink": return (o, w) -> w.ink;
                case "mixed": return (o, w) -> Integer.bitCount(w.mixed);
                case "day": return (o, w) -> o.day;
                case "who": return (o, w) -> w.number;
                case "more": return (o, w) -> w.more;
                default: return null;
            }
        }

        static Expression joined(String sign, Expression l, Expression r) {
            BiFunction<Integer, Integer, Integer> f;
            switch (sign) {
                case "or": f = (x, y) -> x != 0 || y != 0 ? 1 : 0; break;
                case "and": f = (x, y) -> x != 0 && y != 0 ? 1 : 0; break;
                case "<": f = (x, y) -> x < y ? 1 : 0; break;
                case "=": f = (x, y) -> x.intValue() == y.intValue() ? 1 : 0; break;
                case "+": f = (x, y) -> x + y; break;
                case "-": f = (x, y) -> x - y; break;
                default: f = (x, y) -> x * y; break;
            }
            return (o, w) -> f.apply(l.of(o, w), r.of(o, w));
        }
    }

    private static final long NO = -4611686018427387904L;
    private Office office = new Office();
    private Office kept = null;
    private final List<Expression[]> texts = new ArrayList<>();
    private StringBuilder tape = new StringBuilder();
    private final Row[] rows = new Row[4];

    Model() {
        texts.add(new Grammar("boils 50 ; yields 20 ; costs 10 ; ").text());
        office.texts = texts;
    }

    private boolean in(int p) { return p >= 0 && p < office.n(); }

    private boolean two(int a, int b) { return in(a) && in(b) && a != b; }

    private static boolean within(int v, int a, int b) { return a <= v && v <= b; }

    public int count(int what) {
        if (what == 0) return office.n();
        if (what == 1) return office.day;
        if (what == 2) return office.inks();
        if (what == 3) return texts.size();
        if (what == 4) return office.law;
        if (what == 5) return tape.length();
        return -2;
    }

    public int dawn(int v) {
        if (!within(v, 0, 999)) return -2;
        int was = office.day;
        office.day = v;
        return was;
    }

    public int feed(int n, int a, int b, int c, int d, int e) {
        if (!within(n, 1, 5)) return -2;
        int[] five = {a, b, c, d, e};
        for (int v : five) if (!within(v, 0, 255)) return -2;
        if (tape.length() + n > 160) return -4;
        for (int i = 0; i < n; i++) tape.append((char) five[i]);
        return tape.length();
    }

    public int text() {
        if (texts.size() == 6) return -4;
        String all = tape.toString();
        tape = new StringBuilder();
        try {
            texts.add(new Grammar(all).text());
            return texts.size() - 1;
        } catch (Fault f) {
            return -100 - f.place;
        }
    }

    public int force(int t) {
        if (!within(t, 0, texts.size() - 1)) return -2;
        int was = office.law;
        office.law = t;
        return was;
    }

    public int asks(int part, int p) {
        if (!in(p) || !within(part, 0, 2)) return -1000;
        return office.says(part, office.all.get(p));
    }

    public int writer(int kindMore, int tones, int much) {
        if (!within(kindMore, 0, 59) || !within(tones, -99, 99) || !within(much, 0, 99)) return -2;
        if (office.n() == 7) return -4;
        One w = new One();
        w.number = office.n();
        w.kind = kindMore / 10;
        w.more = kindMore % 10;
        w.tone = tones;
        w.ink = much;
        w.mixed = 1 << w.number;
        office.all.add(w);
        return w.number;
    }

    public int put(int p, int what, int v) {
        if (!in(p)) return -5000;
        One w = office.all.get(p);
        int was;
        if (what == 0) {
            if (!within(v, -99, 99)) return -7000;
            was = w.tone;
            w.tone = v;
        } else if (what == 1) {
            if (!within(v, 0, 99)) return -7000;
            was = w.ink;
            w.ink = v;
        } else {
            return -7000;
        }
        return was;
    }

    public int told(int p, int what) {
        if (!in(p)) return -5000;
        if (!within(what, 0, 8)) return -7000;
        One w = office.all.get(p);
        int in = 0;
        for (One q : office.all) if ((q.mixed & 1 << p) != 0) in |= 1 << q.number;
        int[] all = {w.tone, w.ink, w.kind, w.more, w.mixed, office.writes(w), office.yields(w),
            office.costs(w), in};
        return all[what];
    }

    public int write(int a, int b) {
        if (!two(a, b)) return -5000;
        return office.send(a, b) ? office.all.get(b).tone : -6000;
    }

    public int borrow(int a, int b) {
        if (!two(a, b)) return -5000;
        One x = office.all.get(a);
        One y = office.all.get(b);
        int m = 5;
        if (y.ink < m) m = y.ink;
        if (99 - x.ink < m) m = 99 - x.ink;
        int then = x.ink + m;
        if (then != 0) x.tone = (x.tone * x.ink + y.tone * m) / then;
        x.ink = then;
        y.ink -= m;
        if (m != 0) x.mixed |= y.mixed;
        return x.ink;
    }

    public int water(int p, int much) {
        if (!in(p)) return -5000;
        One w = office.all.get(p);
        if (much < 0 || (long) w.ink + much > 99) return -7000;
        int then = w.ink + much;
        if (then != 0) w.tone = w.tone * w.ink / then;
        w.ink = then;
        return w.tone;
    }

    private int noPost(int s) {
        if (!within(s, 0, 3)) return -2;
        if (rows[s] == null) return -11;
        for (int v : rows[s].v) if (v < 0 || !two(v / 10, v % 10)) return -2;
        return 0;
    }

    public int post(int s, int what) {
        int no = noPost(s);
        if (no != 0) return -1000 + no;
        Office o = office.copy();
        int written = 0;
        int first = -1;
        for (int i = 0; i < rows[s].v.length; i++) {
            if (o.send(rows[s].v[i] / 10, rows[s].v[i] % 10)) written++;
            else if (first == -1) first = i;
        }
        if (what == 0) return written;
        if (what == 1) return first;
        if (what == 2) return o.tones();
        if (what == 3) return o.inks();
        if (within(what, 10, 16) && in(what - 10)) return o.all.get(what - 10).tone;
        if (within(what, 20, 26) && in(what - 20)) return o.all.get(what - 20).mixed;
        return -7000;
    }

    public int deliver(int s) {
        int no = noPost(s);
        if (no != 0) return no;
        if (office.day == 999) return -3;
        int written = 0;
        for (int v : rows[s].v) if (office.send(v / 10, v % 10)) written++;
        office.day++;
        return written;
    }

    public int whom(int a, int what) {
        if (!in(a)) return -5000;
        if (!within(what, 0, 1)) return -7000;
        int best = -1;
        int most = Integer.MIN_VALUE;
        for (int b = 0; b < office.n(); b++) {
            if (b == a) continue;
            Office o = office.copy();
            if (!o.send(a, b)) continue;
            if (o.tones() > most) {
                most = o.tones();
                best = b;
            }
        }
        if (best == -1) return what == 0 ? -1 : office.tones();
        return what == 0 ? best : most;
    }

    /** All rows of friends between the two, in order, each tried from the start. */
    public int chain(int a, int b, int letters, int what) {
        if (!two(a, b)) return -5000;
        if (!within(letters, 1, 4) || !within(what, 0, 1)) return -7000;
        List<String> ways = new ArrayList<>();
        allWays("" + a, a, b, letters, ways);
        String best = null;
        int most = 0;
        for (String way : ways) {
            Office o = office.copy();
            boolean can = true;
            for (int i = 1; i < way.length() && can; i++) can = o.send(way.charAt(i - 1) - '0', way.charAt(i) - '0');
            int tone = o.all.get(b).tone;
            if (can && (best == null || tone > most || tone == most && way.compareTo(best) < 0)) {
                best = way;
                most = tone;
            }
        }
        if (best == null) return what == 0 ? -1 : -1000;
        int digits = 0;
        for (char ch : best.toCharArray()) digits = digits * 10 + (ch - '0' + 1);
        return what == 0 ? digits : most;
    }

    private void allWays(String way, int at, int b, int letters, List<String> ways) {
        if (at == b) {
            ways.add(way);
            return;
        }
        if (way.length() > letters) return;
        for (int p = office.n() - 1; p >= 0; p--) {
            if (way.indexOf('0' + p) < 0) allWays(way + p, p, b, letters, ways);
        }
    }

    public int who(int what) {
        if (!within(what, 0, 2)) return -2;
        int best = -1;
        for (int p = office.n() - 1; p >= 0; p--) {
            One w = office.all.get(p);
            One x = best < 0 ? w : office.all.get(best);
            boolean as = what == 0 ? w.tone <= x.tone : what == 1 ? w.tone >= x.tone
                    : Integer.bitCount(w.mixed) >= Integer.bitCount(x.mixed);
            if (as) best = p;
        }
        return best;
    }

    private static long lowest(long above, long below, int part) {
        long g = BigInteger.valueOf(above).gcd(BigInteger.valueOf(below)).longValue();
        return (part == 0 ? above : below) / g;
    }

    public long mean(int part) {
        if (!within(part, 0, 1) || office.inks() == 0) return NO;
        long sum = 0;
        for (One w : office.all) sum += w.tone * w.ink;
        return lowest(sum, office.inks(), part);
    }

    private int noTold(int s, int told) {
        if (!within(told, 0, 3)) return -2;
        int no = noPost(s);
        if (no != 0) return no;
        if (rows[told] == null) return -11;
        return rows[told].v.length > rows[s].v.length ? -2 : 0;
    }

    private int[] filmOf(Office o, int s, int p) {
        int[] tones = new int[rows[s].v.length];
        for (int i = 0; i < tones.length; i++) {
            o.send(rows[s].v[i] / 10, rows[s].v[i] % 10);
            tones[i] = o.all.get(p).tone;
        }
        return tones;
    }

    private int judged(Office o, int s, int told, int p) {
        int[] tones = filmOf(o, s, p);
        for (int i = 0; i < rows[told].v.length; i++) if (rows[told].v[i] != tones[i]) return i;
        return -1;
    }

    public int judge(int s, int told, int p) {
        int no = noTold(s, told);
        if (no != 0) return no;
        return in(p) ? judged(office.copy(), s, told, p) : -5;
    }

    public int kinds(int s, int told, int p, int sort) {
        int no = noTold(s, told);
        if (no != 0) return no;
        if (!in(p)) return -5;
        if (!within(sort, 0, 1)) return -7;
        int bits = 0;
        for (int v = 0; v < (sort == 0 ? 6 : 10); v++) {
            Office o = office.copy();
            if (sort == 0) o.all.get(p).kind = v;
            else o.all.get(p).more = v;
            if (judged(o, s, told, p) == -1) bits += 1 << v;
        }
        return bits;
    }

    public int inks(int s, int told, int p, int sort, int what) {
        int no = noTold(s, told);
        if (no != 0) return no - 1000;
        if (!in(p)) return -1005;
        if (!within(sort, 0, 1) || !within(what, 0, 1)) return -7000;
        List<Integer> fit = new ArrayList<>();
        for (int v = -99; v <= 99; v++) {
            if (sort == 1 && v < 0) continue;
            Office o = office.copy();
            if (sort == 0) o.all.get(p).tone = v;
            else o.all.get(p).ink = v;
            if (judged(o, s, told, p) == -1) fit.add(v);
        }
        return what == 0 ? fit.size() : fit.isEmpty() ? -1000 : fit.get(0);
    }

    public int whose(int s, int told) {
        int no = noTold(s, told);
        if (no != 0) return no;
        int bits = 0;
        for (int p = 0; p < office.n(); p++) if (judged(office.copy(), s, told, p) == -1) bits += 1 << p;
        return bits;
    }

    public int laws(int s, int told, int p) {
        int no = noTold(s, told);
        if (no != 0) return no;
        if (!in(p)) return -5;
        int bits = 0;
        for (int t = 0; t < texts.size(); t++) {
            Office o = office.copy();
            o.law = t;
            if (judged(o, s, told, p) == -1) bits += 1 << t;
        }
        return bits;
    }

    public int film(int s, int told, int p) {
        if (!within(told, 0, 3) || s == told) return -2;
        int no = noPost(s);
        if (no != 0) return no;
        if (!in(p)) return -5;
        Row r = new Row();
        r.sort = 0;
        r.v = filmOf(office.copy(), s, p);
        rows[told] = r;
        return r.v.length;
    }

    private int[] byLots(long seed, int n) {
        Office o = office.copy();
        BigInteger m = BigInteger.valueOf(2147483647);
        BigInteger lot = BigInteger.valueOf(seed + 1);
        int written = 0;
        for (int i = 0; i < n; i++) {
            lot = lot.multiply(BigInteger.valueOf(48271)).mod(m);
            int a = lot.mod(BigInteger.valueOf(7)).intValue();
            lot = lot.multiply(BigInteger.valueOf(48271)).mod(m);
            int b = lot.mod(BigInteger.valueOf(7)).intValue();
            if (two(a, b) && o.send(a, b)) written++;
        }
        return new int[] {o.tones(), written};
    }

    public int drawn(int seed, int n, int what) {
        if (!within(seed, 0, 99999) || !within(n, 0, 60) || !within(what, 0, 1)) return -1000;
        return byLots(seed, n)[what];
    }

    public long odds(int seed, int seeds, int least, int part) {
        if (!within(seed, 0, 99999) || !within(seeds, 1, 40)) return NO;
        if (!within(least, -999, 999) || !within(part, 0, 1)) return NO;
        int hits = 0;
        for (int i = 0; i < seeds; i++) if (byLots(seed + i, 20)[0] >= least) hits++;
        return lowest(hits, seeds, part);
    }

    public int image() {
        kept = office.copy();
        return office.n();
    }

    public int back() {
        if (kept == null) return -3;
        office = kept.copy();
        return office.n();
    }

    public int sheet(int s, int sort, int n) {
        if (!within(s, 0, 3) || !within(sort, -1, 2)) return -2;
        if (sort == -1) {
            rows[s] = null;
            return 1;
        }
        if (n > 40) return -2;
        if (n < 0) return -14;
        rows[s] = new Row();
        rows[s].sort = sort;
        rows[s].v = new int[n];
        return 1;
    }

    public int cell(int s, int i, int v) {
        if (!within(s, 0, 3)) return -2;
        if (rows[s] == null) return -11;
        if (i < 0 || i >= rows[s].v.length) return -12;
        int bits = rows[s].sort == 0 ? 24 : rows[s].sort == 1 ? 16 : 0;
        rows[s].v[i] = v << bits >> bits;
        return 1;
    }

    public int copy(int s, int i, int other, int j, int n) {
        if (!within(s, 0, 3) || !within(other, 0, 3)) return -2;
        if (rows[s] == null || rows[other] == null) return -11;
        if (rows[s].sort != rows[other].sort) return -13;
        int[] from = rows[s].v.clone();
        int[] to = rows[other].v;
        if (n < 0 || i < 0 || j < 0 || (long) i + n > from.length || (long) j + n > to.length) return -12;
        for (int k = 0; k < n; k++) to[j + k] = from[i + k];
        return n;
    }

    public int writersBy(int s, int sort, int from, int n) {
        if (!within(s, 0, 3) || !within(sort, 0, 2) || !within(n, 0, 7)) return -2;
        if (rows[s] == null) return -11;
        if (rows[s].sort != sort) return -13;
        int came = 0;
        for (int k = 0; k < n; k++) {
            long at = (long) from + 3 * k;
            if (at < 0 || at + 3 > rows[s].v.length) return -12;
            int i = (int) at;
            if (writer(rows[s].v[i], rows[s].v[i + 1], rows[s].v[i + 2]) >= 0) came++;
        }
        return came;
    }

    public int taken(int i, int kind) {
        if (!within(kind, 0, 6)) return -200;
        if (!within(i, 0, 13)) return -1200;
        if (!in(i < 7 ? i : i - 7)) return -1100;
        if (i >= 7) return kind == 6 ? office.all.get(i - 7).tone : -1300;
        if (kind == 6) return -1300;
        String[] are = {"0", "01", "02", "013", "024", "05"};
        return are[office.all.get(i).kind].indexOf('0' + kind) >= 0 ? i : -1300;
    }
}
