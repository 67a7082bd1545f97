import java.lang.reflect.Constructor;
import java.lang.reflect.Field;
import java.lang.reflect.Method;
import java.lang.reflect.Modifier;
import java.util.Set;
import java.util.TreeSet;

/** The public face of the document: its constants, its constructor and its methods, and nothing more. */
public final class FaceTest {
    private static final Due DUE = new Due("FaceTest");

    private static final String[] METHODS = {
        "int set(int, int, int)", "int turnOn(int, int)", "int turnOff(int)", "int put(int, int)",
        "int couple(int, int)", "int pass(int)", "int type(char)", "int clearText()", "int perform()",
        "int stopped(int)", "int undo()", "int keep()", "int restore()", "int pair(int, int)",
        "long book(int, int)", "int reason(int)", "int force(int, int)", "int restsIn(int)",
        "int depthIn(int, int)", "int leastVoltage(int)", "int drawingVoltage(int)", "int strongest()",
        "int count(int)"};

    public static void main(String[] args) {
        DUE.is("UNKNOWN", PlateSlabs.UNKNOWN, -1);
        DUE.is("BAD_VALUE", PlateSlabs.BAD_VALUE, -2);
        DUE.is("FULL", PlateSlabs.FULL, -3);
        DUE.is("NOT_POSSIBLE", PlateSlabs.NOT_POSSIBLE, -4);
        DUE.is("NONE", PlateSlabs.NONE, -5);
        DUE.is("public and final", PlateSlabs.class.getModifiers(), Modifier.PUBLIC | Modifier.FINAL);
        methods();
        constructors();
        fields();
        insideClasses();
        DUE.end();
    }

    private static void methods() {
        Set<String> open = new TreeSet<>();
        Set<String> names = new TreeSet<>();
        for (Method method : PlateSlabs.class.getDeclaredMethods()) {
            if (Modifier.isPublic(method.getModifiers())) {
                open.add(signature(method));
                names.add(method.getName());
            } else {
                DUE.is(method + " is private", Modifier.isPrivate(method.getModifiers()) ? 1 : 0, 1);
            }
        }
        DUE.is("the methods " + open, open.equals(new TreeSet<>(Set.of(METHODS))) ? 1 : 0, 1);
        noNameTwice(PlateSlabs.class, names);
        for (Class<?> inside : PlateSlabs.class.getDeclaredClasses()) {
            noNameTwice(inside, names);
        }
    }

    private static void noNameTwice(Class<?> owner, Set<String> names) {
        for (Method method : owner.getDeclaredMethods()) {
            boolean isOpen = owner == PlateSlabs.class && Modifier.isPublic(method.getModifiers());
            DUE.is(method + " bears a public name", !isOpen && names.contains(method.getName()) ? 1 : 0, 0);
        }
    }

    private static String signature(Method method) {
        StringBuilder text = new StringBuilder();
        text.append(method.getReturnType()).append(' ').append(method.getName()).append('(');
        for (Class<?> type : method.getParameterTypes()) {
            text.append(text.charAt(text.length() - 1) == '(' ? "" : ", ").append(type);
        }
        return text.append(')').toString();
    }

    private static void constructors() {
        Constructor<?>[] all = PlateSlabs.class.getDeclaredConstructors();
        DUE.is("constructors", all.length, 1);
        DUE.is("its parameters", all[0].getParameterCount(), 0);
        DUE.is("is public", all[0].getModifiers(), Modifier.PUBLIC);
    }

    private static void fields() {
        int open = 0;
        for (Field field : PlateSlabs.class.getDeclaredFields()) {
            int modifiers = field.getModifiers();
            if (Modifier.isPublic(modifiers)) {
                open++;
                DUE.is(field + " is an int", field.getType() == int.class ? 1 : 0, 1);
            } else {
                DUE.is(field + " is private", Modifier.isPrivate(modifiers) ? 1 : 0, 1);
            }
            DUE.is(field + " is final if static", Modifier.isStatic(modifiers) && !Modifier.isFinal(modifiers) ? 1 : 0, 0);
        }
        DUE.is("public constants", open, 5);
    }

    private static void insideClasses() {
        for (Class<?> inside : PlateSlabs.class.getDeclaredClasses()) {
            int modifiers = inside.getModifiers();
            DUE.is(inside + " is static", Modifier.isStatic(modifiers) ? 1 : 0, 1);
            DUE.is(inside + " is open", modifiers & (Modifier.PUBLIC | Modifier.PROTECTED), 0);
        }
    }
}
