import java.io.IOException;
import java.lang.reflect.Constructor;
import java.lang.reflect.Field;
import java.lang.reflect.Method;
import java.lang.reflect.Modifier;
import java.nio.file.Files;
import java.nio.file.Path;
import java.util.Arrays;
import java.util.Set;
import java.util.TreeSet;
import java.util.regex.Matcher;
import java.util.regex.Pattern;

/** The document's face and no more of it, and the rules of LANGUAGE.md that can be seen from outside. */
public final class FaceTest {
    private static final Set<String> FACE = Set.of("int type(int)", "int clear()", "int gaol()", "int man(int, int)",
        "int cell(int)", "int now(int)", "int month()", "int moves(int, int)", "int feigns(int, int)", "int undo()",
        "int brings(int)", "int putsOn(int, int)", "int carry(int, int)", "int lies(int)", "int word(int, int)",
        "int odds(int, int, int, int)", "int sees(int, int)", "int forget()", "int hards()", "int next()",
        "int rate(int, int)", "int keep(int)", "int back(int)", "int count(int)", "long trace()");

    public static void main(String[] args) throws IOException {
        face();
        constants();
        inside();
        source();
        Due.end("FaceTest");
    }

    private static void face() {
        Class<?> type = CellNeighbours.class;
        int modifiers = type.getModifiers();
        Due.holds("public final", Modifier.isPublic(modifiers) && Modifier.isFinal(modifiers));
        Set<String> open = new TreeSet<>();
        Set<String> names = new TreeSet<>();
        for (Method method : type.getDeclaredMethods()) {
            if (!Modifier.isPrivate(method.getModifiers())) {
                open.add(shape(method));
                names.add(method.getName());
                Due.holds(method + " is public", Modifier.isPublic(method.getModifiers()));
            }
        }
        Due.holds("the face is " + open, open.equals(new TreeSet<>(FACE)));
        for (Method method : type.getDeclaredMethods()) {
            if (Modifier.isPrivate(method.getModifiers())) {
                Due.holds(method + " has a name of its own", !names.contains(method.getName()));
            }
        }
        Constructor<?>[] constructors = type.getDeclaredConstructors();
        Due.due("constructors", constructors.length, 1);
        Due.holds("a public one", Modifier.isPublic(constructors[0].getModifiers()));
        Due.due("its parameters", constructors[0].getParameterCount(), 0);
    }

    private static String shape(Method method) {
        String parameters = Arrays.toString(method.getParameterTypes());
        return method.getReturnType() + " " + method.getName() + "(" + parameters.substring(1, parameters.length() - 1) + ")";
    }

    private static void constants() {
        Due.due("BAD", CellNeighbours.BAD, -1);
        Due.due("STATE", CellNeighbours.STATE, -2);
        Due.due("FULL", CellNeighbours.FULL, -3);
        Due.due("NONE", CellNeighbours.NONE, -9);
        Due.due("NO", CellNeighbours.NO, -1000000);
        Set<String> open = new TreeSet<>();
        for (Field field : CellNeighbours.class.getDeclaredFields()) {
            if (!Modifier.isPrivate(field.getModifiers())) {
                open.add(field.getName());
            }
        }
        Due.holds("open fields " + open, open.equals(new TreeSet<>(Set.of("BAD", "STATE", "FULL", "NONE", "NO"))));
    }

    private static void inside() {
        Class<?>[] classes = CellNeighbours.class.getDeclaredClasses();
        Due.holds("twelve classes at most", classes.length < 12);
        for (Class<?> type : classes) {
            Due.holds(type + " is static", Modifier.isStatic(type.getModifiers()));
            Due.holds(type + " is not open", !Modifier.isPublic(type.getModifiers()));
            for (Method method : type.getDeclaredMethods()) {
                Due.holds(method + " takes seven at most", method.getParameterCount() <= 7);
                Due.holds(method + " is not the face's", FACE.stream().noneMatch(f -> f.contains(" " + method.getName() + "(")));
            }
            for (Field field : type.getDeclaredFields()) {
                int modifiers = field.getModifiers();
                Due.holds(field + " is final, if static", !Modifier.isStatic(modifiers) || Modifier.isFinal(modifiers));
            }
        }
    }

    private static void source() throws IOException {
        String source = Files.readString(Path.of("src/main/java/CellNeighbours.java"));
        String code = source.replaceAll("(?s)/\\*.*?\\*/", "").replaceAll("//[^\n]*", "");
        Matcher banned = Pattern.compile("\\b(throw|throws|try|catch|synchronized|assert|import|package|Object|String|"
            + "hashCode|toString|System\\.(?!arraycopy)\\w+|\\w+Exact)\\b|->|::|@").matcher(code);
        Due.holds("nothing that is ruled out", !banned.find());
        Due.holds("signs 10 and 32 to 126 alone", source.chars().allMatch(c -> c == 10 || c >= 32 && c <= 126));
    }
}
