import java.lang.reflect.Constructor;
import java.lang.reflect.Field;
import java.lang.reflect.Method;
import java.lang.reflect.Modifier;
import java.util.Set;
import java.util.TreeSet;

/** 'The public face' of the document and its constants: all that is told there, as it is told, and no more. */
public final class FaceTest {
    private static final Due DUE = new Due();

    private static final String[] METHODS = {
        "int set(int, int)", "int roof(int, boolean)", "int come(int)", "int go(int)", "int height(int, int)",
        "int stand(int, int)", "int shuffle(int)", "int play()", "int read()", "int booth(int, int)",
        "int pitch(int, int)", "int seen(int, int, int)", "int count(int)", "int lot(int)", "int ifStood(int, int)",
        "int bestPitch(int)", "int ifPlayed(int, int)", "int bestHeight(int)", "int put(long)", "int wipe()",
        "int fault()", "int undo()", "int save(int)", "int restore(int)"};

    private static final String[] CONSTANTS = {
        "NO_SUCH = -1", "BAD_VALUE = -2", "BAD_TEXT = -3", "TOO_MANY = -4", "NOT_POSSIBLE = -5", "NONE = -6",
        "LEFT = 0", "RIGHT = 1", "STOP = 2", "GIVE = 3", "GAP = 4", "RAIN = 5"};

    public static void main(String[] args) throws IllegalAccessException {
        theClass();
        constructors();
        methods();
        constants();
        DUE.end();
    }

    private static void theClass() {
        Class<?> face = PuppetPitches.class;
        DUE.is("public and final", face.getModifiers(), Modifier.PUBLIC | Modifier.FINAL);
        DUE.is("without a package", face.getPackageName().length(), 0);
        DUE.is("of no other class", face.getSuperclass() == Object.class ? 1 : 0, 1);
        DUE.is("of no interface", face.getInterfaces().length, 0);
        DUE.is("no class to be seen inside", face.getClasses().length, 0);
    }

    private static void constructors() {
        Constructor<?>[] all = PuppetPitches.class.getDeclaredConstructors();
        DUE.is("one constructor", all.length, 1);
        DUE.is("that is public", all[0].getModifiers(), Modifier.PUBLIC);
        DUE.is("that takes nothing", all[0].getParameterCount(), 0);
        DUE.is("and names no exception", all[0].getExceptionTypes().length, 0);
    }

    private static void methods() {
        Set<String> told = new TreeSet<>(Set.of(METHODS));
        Set<String> found = new TreeSet<>();
        for (Method method : PuppetPitches.class.getDeclaredMethods()) {
            if (!Modifier.isPrivate(method.getModifiers())) {
                found.add(tell(method));
                DUE.is(method + ": public, of an object", method.getModifiers(), Modifier.PUBLIC);
                DUE.is(method + ": names no exception", method.getExceptionTypes().length, 0);
            }
        }
        same("methods", found, told);
    }

    private static String tell(Method method) {
        StringBuilder told = new StringBuilder(method.getReturnType().getName());
        told.append(' ').append(method.getName()).append('(');
        String between = "";
        for (Class<?> type : method.getParameterTypes()) {
            told.append(between).append(type.getName());
            between = ", ";
        }
        return told.append(')').toString();
    }

    private static void constants() throws IllegalAccessException {
        Set<String> told = new TreeSet<>(Set.of(CONSTANTS));
        Set<String> found = new TreeSet<>();
        for (Field field : PuppetPitches.class.getDeclaredFields()) {
            if (!Modifier.isPrivate(field.getModifiers())) {
                DUE.is(field + ": a constant", field.getModifiers(), Modifier.PUBLIC | Modifier.STATIC | Modifier.FINAL);
                DUE.is(field + ": an int", field.getType() == int.class ? 1 : 0, 1);
                found.add(field.getName() + " = " + field.getInt(null));
            }
        }
        same("constants", found, told);
    }

    private static void same(String name, Set<String> found, Set<String> told) {
        if (!found.equals(told)) {
            System.out.println(name + " found: " + found);
            System.out.println(name + " told:  " + told);
        }
        DUE.is(name + " as they are told", found.equals(told) ? 1 : 0, 1);
    }
}
