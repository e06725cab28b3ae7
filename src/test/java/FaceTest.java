import java.lang.reflect.Constructor;
import java.lang.reflect.Field;
import java.lang.reflect.Method;
import java.lang.reflect.Modifier;
import java.util.Arrays;
import java.util.TreeSet;

/** The public face is the document's, and nothing else can be seen from outside. */
public final class FaceTest {
    private static final String[] METHODS = {
        "int count(int)", "int dawn(int)", "int feed(int,int,int,int,int,int)", "int text()",
        "int force(int)", "int asks(int,int)", "int writer(int,int,int)", "int put(int,int,int)",
        "int told(int,int)", "int write(int,int)", "int borrow(int,int)", "int water(int,int)",
        "int post(int,int)", "int deliver(int)", "int whom(int,int)", "int chain(int,int,int,int)",
        "int who(int)", "long mean(int)", "int judge(int,int,int)", "int kinds(int,int,int,int)",
        "int inks(int,int,int,int,int)", "int whose(int,int)", "int laws(int,int,int)",
        "int film(int,int,int)", "int drawn(int,int,int)", "long odds(int,int,int,int)",
        "int image()", "int back()", "int sheet(int,int,int)", "int cell(int,int,int)",
        "int copy(int,int,int,int,int)", "int writersBy(int,int,int,int)", "int taken(int,int)",
    };
    private static final String[] CONSTANTS = {"NONE", "BAD", "STATE", "FULL", "NO"};

    public static void main(String[] args) {
        Checks c = new Checks();
        c.of("the face");
        c.due("final", Modifier.isFinal(InkOfLetters.class.getModifiers()) ? 1 : 0, 1);
        c.due("public", Modifier.isPublic(InkOfLetters.class.getModifiers()) ? 1 : 0, 1);

        TreeSet<String> left = new TreeSet<>(Arrays.asList(METHODS));
        for (Method m : InkOfLetters.class.getDeclaredMethods()) {
            if (Modifier.isPrivate(m.getModifiers())) {
                continue;
            }
            StringBuilder told = new StringBuilder(m.getReturnType() + " " + m.getName() + "(");
            for (Class<?> p : m.getParameterTypes()) {
                told.append(told.charAt(told.length() - 1) == '(' ? "" : ",").append(p);
            }
            c.due("method " + told + ") of the face", left.remove(told + ")") ? 1 : 0, 1);
        }
        c.due("methods missing " + left, left.size(), 0);

        TreeSet<String> constants = new TreeSet<>(Arrays.asList(CONSTANTS));
        for (Field f : InkOfLetters.class.getDeclaredFields()) {
            if (!Modifier.isPrivate(f.getModifiers())) {
                c.due("constant " + f.getName() + " of the face", constants.remove(f.getName()) ? 1 : 0, 1);
            }
        }
        c.due("constants missing " + constants, constants.size(), 0);

        Constructor<?>[] made = InkOfLetters.class.getDeclaredConstructors();
        c.due("constructors", made.length, 1);
        c.due("its parameters", made[0].getParameterCount(), 0);

        c.due("NONE", InkOfLetters.NONE, -1);
        c.due("BAD", InkOfLetters.BAD, -2);
        c.due("STATE", InkOfLetters.STATE, -3);
        c.due("FULL", InkOfLetters.FULL, -4);
        c.due("NO", InkOfLetters.NO, -4611686018427387904L);
        c.end();
    }
}
