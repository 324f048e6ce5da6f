import java.lang.reflect.Constructor;
import java.lang.reflect.Field;
import java.lang.reflect.Method;
import java.lang.reflect.Modifier;
import java.util.Arrays;
import java.util.TreeSet;

/** The public face is the document's, and nothing else can be seen from outside. */
public final class FaceTest {
    private static final String[] FACE = {
        "boolean type(char)",
        "char at(int)",
        "int begin(int) throws IndexOutOfBoundsException",
        "int edit(int,int) throws IndexOutOfBoundsException,IllegalStateException",
        "int end(int) throws IndexOutOfBoundsException",
        "int fault()",
        "int items()",
        "int kept()",
        "int length()",
        "int level(int)",
        "int number(int)",
        "int token(int) throws IndexOutOfBoundsException",
        "int tokens()",
        "int value(int) throws IndexOutOfBoundsException",
        "int which(int)",
        "int wipe()",
        "new()",
        "constant BAD 4",
        "constant NAME 0",
        "constant NONE -1",
        "constant NUMBER 1",
        "constant SIGN 3",
        "constant STRING 2",
    };

    public static void main(String[] args) throws IllegalAccessException {
        TreeSet<String> seen = new TreeSet<>();
        for (Method m : KeptItems.class.getDeclaredMethods()) {
            if (isSeen(m.getModifiers())) {
                seen.add(m.getReturnType().getSimpleName() + " " + m.getName()
                    + names(m.getParameterTypes(), "(", ")") + names(m.getExceptionTypes(), " throws ", ""));
            }
        }
        for (Constructor<?> c : KeptItems.class.getDeclaredConstructors()) {
            if (isSeen(c.getModifiers())) {
                seen.add("new" + names(c.getParameterTypes(), "(", ")"));
            }
        }
        for (Field f : KeptItems.class.getDeclaredFields()) {
            if (isSeen(f.getModifiers())) {
                seen.add("constant " + f.getName() + " " + f.getInt(null));
            }
        }
        TreeSet<String> due = new TreeSet<>(Arrays.asList(FACE));
        for (String line : due) {
            Check.due("has " + line, seen.contains(line), true);
        }
        for (String line : seen) {
            Check.due("the document has " + line, due.contains(line), true);
        }
        Check.due("public and final", KeptItems.class.getModifiers(), Modifier.PUBLIC | Modifier.FINAL);
        Check.finish("FaceTest");
    }

    private static boolean isSeen(int modifiers) {
        return !Modifier.isPrivate(modifiers);
    }

    private static String names(Class<?>[] types, String before, String behind) {
        if (types.length == 0 && behind.isEmpty()) {
            return "";
        }
        StringBuilder names = new StringBuilder(before);
        for (int i = 0; i < types.length; i++) {
            names.append(i == 0 ? "" : ",").append(types[i].getSimpleName());
        }
        return names.append(behind).toString();
    }
}
