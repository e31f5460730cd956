import java.lang.reflect.Constructor;
import java.lang.reflect.Field;
import java.lang.reflect.Method;
import java.lang.reflect.Modifier;
import java.util.Arrays;
import java.util.Set;
import java.util.TreeSet;

/** The public face: just what the document says, with its exceptions, and nothing else to be seen. */
public final class FaceTest {
    private static final String PLACE = "IndexOutOfBoundsException";
    private static final String ARGUMENT = " IllegalArgumentException";
    private static final String STATE = " IllegalStateException";
    private static final String ABLE = " UnsupportedOperationException";
    private static final String NUMBERS = "ArithmeticException";

    private static final String[] FACE = {
        "int type(int int) " + PLACE + ARGUMENT + STATE,
        "int typeMany(int int int) " + PLACE + ARGUMENT + STATE,
        "int cut(int) " + PLACE + " NoSuchElementException",
        "int clear(int) " + PLACE,
        "int length(int) " + PLACE,
        "int byteAt(int int) " + PLACE,
        "int ends(int) " + PLACE,
        "int open(int int int int) " + PLACE + ARGUMENT,
        "int kind(int) " + PLACE,
        "int read(int) " + PLACE + ABLE,
        "int readPart(int int) " + PLACE + ARGUMENT + ABLE,
        "int partLength() ",
        "int partAt(int) " + PLACE,
        "int skip(int int) " + PLACE + ARGUMENT + ABLE,
        "int readLine(int int) " + PLACE + ABLE + STATE,
        "int pour(int int) " + PLACE + ABLE + STATE,
        "int alike(int int) " + PLACE + ARGUMENT + ABLE,
        "boolean canMark(int) " + PLACE + ABLE,
        "int mark(int) " + PLACE + ABLE,
        "int back(int) " + PLACE + ABLE,
        "int left(int) " + PLACE + ABLE,
        "int line(int) " + PLACE + ABLE,
        "int setLine(int int) " + PLACE + ABLE,
        "long check(int) " + PLACE + ABLE,
        "long checkAnew(int) " + PLACE + ABLE,
        "long checkOf(int) " + PLACE,
        "float share(int) " + PLACE + " " + NUMBERS,
        "double meanLine() " + NUMBERS,
        "long checksum() ",
        "boolean isTrue() ",
    };

    public static void main(String[] args) {
        Set<String> want = new TreeSet<>(Arrays.asList(FACE));
        Set<String> got = new TreeSet<>();
        Set<String> hidden = new TreeSet<>();
        for (Method method : Layerwell.class.getDeclaredMethods()) {
            if (Modifier.isPrivate(method.getModifiers())) {
                hidden.add(method.getName());
            } else {
                got.add(described(method));
            }
        }
        if (!got.equals(want)) {
            Due.say("the face is " + got + ", due is " + want);
        }
        for (String line : FACE) {
            String name = line.substring(line.indexOf(' ') + 1, line.indexOf('('));
            Due.is("a private method has the public name " + name, hidden.contains(name), false);
        }
        for (Field field : Layerwell.class.getDeclaredFields()) {
            Due.is("private: " + field.getName(), Modifier.isPrivate(field.getModifiers()), true);
        }
        Constructor<?>[] constructors = Layerwell.class.getDeclaredConstructors();
        Due.is("constructors", constructors.length, 1);
        Due.is("its parameters", constructors[0].getParameterCount(), 0);
        Due.is("the class is final", Modifier.isFinal(Layerwell.class.getModifiers()), true);
        Due.end();
    }

    private static String described(Method method) {
        StringBuilder text = new StringBuilder(method.getReturnType().getName());
        text.append(' ').append(method.getName()).append('(');
        text.append(names(method.getParameterTypes())).append(") ");
        text.append(names(method.getExceptionTypes()));
        return (Modifier.isPublic(method.getModifiers()) ? "" : "not public: ") + text;
    }

    private static String names(Class<?>[] types) {
        String[] names = new String[types.length];
        for (int i = 0; i < types.length; i++) {
            names[i] = types[i].getSimpleName();
        }
        return String.join(" ", names);
    }
}
