import java.lang.reflect.InvocationTargetException;
import java.lang.reflect.Method;
import java.nio.charset.StandardCharsets;
import java.util.ArrayList;
import java.util.Arrays;
import java.util.Comparator;
import java.util.List;
import java.util.Random;

/** Runs of 512 calls drawn by fixed seeds: the program must answer as Model does, and never throw. */
public final class RandomTest {
    private static final int RUNS = 1500;
    private static final int CALLS = 512;
    private static final int[] EDGES = {
        Integer.MIN_VALUE, Integer.MIN_VALUE + 1, Integer.MAX_VALUE, Integer.MAX_VALUE - 1, Integer.MAX_VALUE - 2,
        -1000, -100, -99, -12, -2, -1, 0, 1, 2, 3, 6, 7, 39, 40, 41, 99, 100, 255, 256, 999, 1000, 99999, 100000,
    };
    private static final List<String> RARE = List.of("back", "odds", "inks", "feed", "text", "sheet");
    private static final String[] NAMES = {"tone", "ink", "mixed", "day", "who", "more"};
    private static final String[] BITS = {
        "boils", "yields", "costs", "or", "and", "not", "tone", "ink", "mixed", "day", "who", "more", "(", ")",
        ";", "+", "-", "*", "<", "=", "0", "7", "50", "9999", "12345", " ", "\n", "x", "A", "\t", "!", "\u00e9", "\0",
    };

    private final Random random;
    private final InkOfLetters program = new InkOfLetters();
    private final Model model = new Model();
    private final List<String> calls = new ArrayList<>();
    private String fault = null;

    private RandomTest(long seed) {
        random = new Random(seed);
    }

    public static void main(String[] args) throws Exception {
        int runs = args.length > 0 ? Integer.parseInt(args[0]) : RUNS;
        Method[] methods = InkOfLetters.class.getMethods();
        List<Method> face = new ArrayList<>();
        for (Method m : methods) {
            if (m.getDeclaringClass() == InkOfLetters.class) face.add(m);
        }
        face.sort(Comparator.comparing(Method::getName));
        for (int seed = 0; seed < runs; seed++) {
            RandomTest t = new RandomTest(seed);
            t.run(face);
            if (t.fault != null) {
                System.out.println("run " + seed + ":");
                t.calls.forEach(System.out::println);
                System.out.println(t.fault);
                System.exit(1);
            }
        }
        System.out.println(runs + " runs of " + CALLS + " calls as due");
    }

    private void run(List<Method> face) throws Exception {
        boolean wild = random.nextInt(6) == 0;
        boolean wordy = random.nextInt(6) == 0;
        if (!wild) {
            settle();
        }
        while (calls.size() < CALLS && fault == null) {
            int dice = random.nextInt(100);
            if (dice < (wordy ? 60 : 4) && !wild) {
                feedAText();
            } else if (dice < 9 && !wild) {
                tellAPost();
            } else {
                Method m = face.get(random.nextInt(face.size()));
                if (!RARE.contains(m.getName()) || random.nextInt(4) == 0) {
                    call(m.getName(), arguments(m, wild));
                }
            }
        }
    }

    private void settle() throws Exception {
        int writers = random.nextInt(8);
        for (int i = 0; i < writers; i++) {
            call("writer", random.nextInt(60), random.nextInt(199) - 99, random.nextInt(100));
        }
    }

    private void feedAText() throws Exception {
        String text = random.nextInt(4) == 0 ? rubble() : "boils " + sum(0) + ";yields " + expression(0) + ";costs " + sum(0) + ";";
        if (random.nextInt(4) == 0 && text.length() > 0) {
            int at = random.nextInt(text.length());
            text = text.substring(0, at) + BITS[random.nextInt(BITS.length)] + text.substring(Math.min(text.length(), at + random.nextInt(3)));
        }
        byte[] bytes = text.getBytes(StandardCharsets.ISO_8859_1);
        for (int i = 0; i < bytes.length && i < 160; i += 5) {
            int[] a = {Math.min(5, bytes.length - i), 0, 0, 0, 0, 0};
            for (int k = 0; k < a[0]; k++) a[k + 1] = bytes[i + k] & 255;
            call("feed", a);
        }
        call("text");
        int law = random.nextInt(model.count(3));
        call("force", law);
        for (int p = 0; p < model.count(0); p++) {
            call("asks", random.nextInt(3), p);
        }
    }

    private String rubble() {
        StringBuilder s = new StringBuilder();
        int n = random.nextInt(12);
        for (int i = 0; i < n; i++) s.append(BITS[random.nextInt(BITS.length)]);
        return s.toString();
    }

    private String gap() {
        return random.nextInt(3) == 0 ? "\n" : " ";
    }

    private String sum(int depth) {
        return random.nextInt(3) == 0 ? expression(depth) : "" + random.nextInt(120);
    }

    private String expression(int depth) {
        int dice = random.nextInt(depth > 3 ? 3 : 12);
        if (dice == 0) return "" + random.nextInt(random.nextBoolean() ? 10 : 10000);
        if (dice <= 2) return NAMES[random.nextInt(NAMES.length)];
        if (dice == 3) return "(" + expression(depth + 1) + ")";
        if (dice == 4) return "-" + expression(depth + 1);
        if (dice == 5) return "not" + gap() + expression(depth + 1);
        String[] signs = {gap() + "or" + gap(), gap() + "and" + gap(), "<", "=", "+", "-", "*", "+", "*"};
        return expression(depth + 1) + signs[random.nextInt(signs.length)] + expression(depth + 1);
    }

    /** A post, and the tones of one behind its letters, perhaps one of them otherwise. */
    private void tellAPost() throws Exception {
        int s = random.nextInt(4);
        int told = (s + 1 + random.nextInt(3)) % 4;
        int n = random.nextInt(random.nextInt(4) == 0 ? 41 : 8);
        int writers = model.count(0);
        call("sheet", s, random.nextInt(3), n);
        for (int i = 0; i < n && writers > 1; i++) {
            int a = random.nextInt(writers);
            int b = (a + 1 + random.nextInt(writers - 1)) % writers;
            call("cell", s, i, 10 * a + b);
        }
        int p = writers == 0 ? 0 : random.nextInt(writers);
        call("film", s, told, p);
        if (n > 0 && random.nextInt(3) == 0) {
            call("cell", told, random.nextInt(n), random.nextInt(199) - 99);
        }
        if (random.nextInt(3) == 0) {
            call("force", random.nextInt(model.count(3)));
        }
        call("judge", s, told, p);
        call("kinds", s, told, p, random.nextInt(2));
        call("inks", s, told, p, random.nextInt(2), random.nextInt(2));
        call("whose", s, told);
        call("laws", s, told, p);
        call("post", s, random.nextInt(27));
        if (random.nextBoolean()) {
            call("deliver", s);
        }
    }

    private int[] arguments(Method m, boolean wild) {
        int[] a = new int[m.getParameterCount()];
        for (int i = 0; i < a.length; i++) {
            a[i] = random.nextInt(wild ? 2 : 12) == 0 ? EDGES[random.nextInt(EDGES.length)] : fitting(m.getName(), i);
        }
        boolean two = m.getName().equals("write") || m.getName().equals("borrow") || m.getName().equals("chain");
        if (two && a[0] == a[1] && random.nextInt(4) != 0) {
            a[1] = (a[0] + 1) % Math.max(1, model.count(0));
        }
        return a;
    }

    private int fitting(String name, int i) {
        int writer = random.nextInt(Math.max(1, model.count(0)));
        switch (name + i) {
            case "dawn0": return random.nextInt(1000);
            case "feed0": return 1 + random.nextInt(5);
            case "feed1": case "feed2": case "feed3": case "feed4": case "feed5": return random.nextInt(256);
            case "writer0": return random.nextInt(60);
            case "writer1": case "put2": return random.nextInt(199) - 99;
            case "writer2": return random.nextInt(100);
            case "water1": return random.nextInt(12);
            case "told1": return random.nextInt(9);
            case "post1": return random.nextInt(27);
            case "chain2": return 1 + random.nextInt(4);
            case "drawn0": case "odds0": return random.nextInt(100000);
            case "drawn1": case "odds1": return 1 + random.nextInt(40);
            case "odds2": return random.nextInt(400) - 200;
            case "sheet1": return random.nextInt(4) - 1;
            case "sheet2": return random.nextInt(30);
            case "cell1": case "copy1": case "copy3": case "copy4": case "writersBy2": return random.nextInt(10);
            case "cell2": return random.nextBoolean() ? random.nextInt(67) : random.nextInt(700) - 300;
            case "count0": case "force0": return random.nextInt(6);
            case "writersBy3": return random.nextInt(4);
            case "taken0": return random.nextInt(14);
            case "taken1": return random.nextInt(7);
            case "judge2": case "kinds2": case "inks2": case "laws2": case "film2": return writer;
            case "asks1": case "put0": case "told0": case "water0": return writer;
            case "write0": case "write1": case "borrow0": case "borrow1": return writer;
            case "whom0": case "chain0": case "chain1": return writer;
            case "whom1": case "chain3": case "put1": case "drawn2": case "odds3": case "mean0": return random.nextInt(2);
            case "who0": case "asks0": return random.nextInt(3);
            case "writersBy1": return random.nextInt(3);
            default: return random.nextInt(4);
        }
    }

    private void call(String name, int... a) throws Exception {
        if (fault != null || calls.size() >= CALLS) {
            return;
        }
        Object[] boxed = Arrays.stream(a).boxed().toArray();
        Class<?>[] types = new Class<?>[a.length];
        Arrays.fill(types, int.class);
        Object due = Model.class.getMethod(name, types).invoke(model, boxed);
        String told = name + Arrays.toString(a);
        try {
            Object got = InkOfLetters.class.getMethod(name, types).invoke(program, boxed);
            calls.add(told + " " + got);
            if (!got.equals(due)) {
                fault = "due is " + due;
            }
        } catch (InvocationTargetException e) {
            calls.add(told);
            fault = "threw " + e.getCause();
        }
    }
}
