import java.lang.reflect.Constructor;
import java.lang.reflect.Field;
import java.lang.reflect.Method;
import java.lang.reflect.Modifier;
import java.util.ArrayList;
import java.util.Collections;
import java.util.List;

/** The public face: the class, its constants, its constructor and its methods, and no more. */
public final class FaceTest {
    private static final String[] METHODS = {
        "set(int,int)", "board(int,int)", "plug(int,int,int)", "pull(int,int)", "ask(int)", "send(int,int)", "pass(int)",
        "of(int,int)", "slot(int)", "word(int,int)", "waiting(int)", "count(int)", "known(int)",
        "why(int,int)", "knownIn(int)", "wouldHurt(int,int,int)", "safeSpeed(int,int)", "quietIn()",
        "put(long)", "wipe()", "fault()", "carryOut()", "undo()", "save(int)", "restore(int)"};
    private static final String[] CONSTANTS = {
        "NO_SUCH", "BAD_VALUE", "BAD_TEXT", "TOO_MANY", "NOT_POSSIBLE", "NONE", "HOLD", "SOFT", "LENGTH", "GREET", "SUPPLY"};

    public static void main(String[] args) {
        Due due = new Due("FaceTest");
        due.is("public and final", PlugPins.class.getModifiers(), Modifier.PUBLIC | Modifier.FINAL);
        due.same("methods", openMethods(), sorted(METHODS));
        due.same("constants", openFields(), sorted(CONSTANTS));
        Constructor<?>[] constructors = PlugPins.class.getDeclaredConstructors();
        due.is("constructors", constructors.length, 1);
        due.is("public constructor", constructors[0].getModifiers(), Modifier.PUBLIC);
        due.is("its parameters", constructors[0].getParameterCount(), 0);
        for (Class<?> inner : PlugPins.class.getDeclaredClasses()) {
            due.is(inner + " is static", inner.getModifiers() & Modifier.STATIC, Modifier.STATIC);
            due.is(inner + " is not open", inner.getModifiers() & (Modifier.PUBLIC | Modifier.PROTECTED), 0);
        }
        values(due);
        due.end();
    }

    private static void values(Due due) {
        due.is("NO_SUCH", PlugPins.NO_SUCH, -1);
        due.is("BAD_VALUE", PlugPins.BAD_VALUE, -2);
        due.is("BAD_TEXT", PlugPins.BAD_TEXT, -3);
        due.is("TOO_MANY", PlugPins.TOO_MANY, -4);
        due.is("NOT_POSSIBLE", PlugPins.NOT_POSSIBLE, -5);
        due.is("NONE", PlugPins.NONE, -6);
        due.is("HOLD", PlugPins.HOLD, 0);
        due.is("SOFT", PlugPins.SOFT, 1);
        due.is("LENGTH", PlugPins.LENGTH, 2);
        due.is("GREET", PlugPins.GREET, 3);
        due.is("SUPPLY", PlugPins.SUPPLY, 4);
    }

    private static String openMethods() {
        List<String> found = new ArrayList<>();
        for (Method method : PlugPins.class.getDeclaredMethods()) {
            if (!Modifier.isPrivate(method.getModifiers())) {
                StringBuilder face = new StringBuilder(method.getName()).append('(');
                String comma = "";
                for (Class<?> parameter : method.getParameterTypes()) {
                    face.append(comma).append(parameter.getName());
                    comma = ",";
                }
                found.add(face.append(')').toString());
                boolean isPlain = method.getModifiers() == Modifier.PUBLIC && method.getReturnType() == int.class;
                if (!isPlain) {
                    found.add("not public int: " + method);
                }
            }
        }
        Collections.sort(found);
        return found.toString();
    }

    private static String openFields() {
        List<String> found = new ArrayList<>();
        for (Field field : PlugPins.class.getDeclaredFields()) {
            if (!Modifier.isPrivate(field.getModifiers())) {
                found.add(field.getName());
                if (field.getModifiers() != (Modifier.PUBLIC | Modifier.STATIC | Modifier.FINAL)) {
                    found.add("no public constant: " + field);
                }
            }
        }
        Collections.sort(found);
        return found.toString();
    }

    private static String sorted(String[] names) {
        List<String> all = new ArrayList<>(List.of(names));
        Collections.sort(all);
        return all.toString();
    }
}
