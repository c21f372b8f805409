import java.io.IOException;
import java.lang.reflect.Constructor;
import java.lang.reflect.Field;
import java.lang.reflect.Method;
import java.lang.reflect.Modifier;
import java.nio.file.Files;
import java.nio.file.Path;
import java.util.ArrayList;
import java.util.Arrays;
import java.util.HashSet;
import java.util.List;
import java.util.Set;
import java.util.TreeSet;

/** The public face of the document, and what of ../shared/LANGUAGE.md can be seen from outside. */
public final class FaceTest {
    private static final Due due = new Due("FaceTest");

    private static final String A = " IllegalArgumentException";
    private static final String S = " IllegalStateException";
    private static final String I = " IndexOutOfBoundsException";

    private static final List<String> FACE = List.of(
        "int step(int int)" + A + S, "int rewrite(int int int)" + I + A, "int give(int)" + S, "int restart()",
        "int point(int int)" + A + S, "int condition(int int int int)" + I + A, "int turn(int boolean int)" + I + A,
        "int watch(int int int)" + A + S, "int unwatch()", "int run(int)" + A, "int over(int)" + A,
        "int out(int)" + A + S, "int back(int)" + A, "int backRun()", "int told(int)" + A, "int stack(int)" + I,
        "int cell(int)" + I, "int frame(int)" + I, "int output(int)" + I, "int ofStep(int int)" + I + A,
        "int ofPoint(int int)" + I + A, "int then(int int)" + I + A, "int wroteAgo(int)" + I,
        "int record(int)" + I + S, "int replay(int)" + I + S, "int parts(int)" + I + S, "int endsIn(int)" + A,
        "int cellIn(int int)" + I + A, "int outputWith(int int)" + I, "double heat()", "long digest()");

    private static final List<String> RULED_OUT = List.of("import ", "package ", "->", "::", "try ", "catch",
        "finally", "synchronized", "assert", "System.out", "Exact(", "static {", " + \"", "\" + ");

    public static void main(String[] args) throws IOException {
        face();
        nothingElse(Lantern.class);
        insides();
        source();
        due.end();
    }

    private static void face() {
        int modifiers = Lantern.class.getModifiers();
        due.isSo("the class is public and final", Modifier.isPublic(modifiers) && Modifier.isFinal(modifiers));
        Constructor<?>[] constructors = Lantern.class.getDeclaredConstructors();
        due.is("one constructor", constructors.length, 1);
        due.isSo("it is public", Modifier.isPublic(constructors[0].getModifiers()));
        due.is("it takes nothing", constructors[0].getParameterCount(), 0);
        Set<String> got = new TreeSet<>();
        for (Method method : Lantern.class.getDeclaredMethods()) {
            if (!Modifier.isPrivate(method.getModifiers())) {
                due.isSo(method.getName() + " is public", Modifier.isPublic(method.getModifiers()));
                due.isSo(method.getName() + " is not static", !Modifier.isStatic(method.getModifiers()));
                got.add(told(method));
            }
        }
        due.isSo("the face: " + got, got.equals(new TreeSet<>(FACE)));
    }

    private static String told(Method method) {
        List<String> types = new ArrayList<>();
        for (Class<?> type : method.getParameterTypes()) {
            types.add(type.getName());
        }
        StringBuilder told = new StringBuilder(method.getReturnType() + " " + method.getName());
        told.append('(').append(String.join(" ", types)).append(')');
        for (Class<?> thrown : method.getExceptionTypes()) {
            told.append(' ').append(thrown.getSimpleName());
        }
        return told.toString();
    }

    private static void nothingElse(Class<?> type) {
        int fields = 0;
        for (Field field : type.getDeclaredFields()) {
            boolean isStatic = Modifier.isStatic(field.getModifiers());
            fields += isStatic ? 0 : 1;
            due.isSo(field + " is private", Modifier.isPrivate(field.getModifiers()));
            due.isSo(field + " is final, if static", !isStatic || Modifier.isFinal(field.getModifiers()));
        }
        due.isSo(type + " has some twenty fields at most", fields <= 20);
        for (Method method : type.getDeclaredMethods()) {
            due.isSo(method + " has seven parameters at most", method.getParameterCount() <= 7);
        }
    }

    private static void insides() {
        Set<String> names = new HashSet<>();
        Arrays.stream(Lantern.class.getMethods()).forEach(method -> names.add(method.getName()));
        List<Class<?>> types = new ArrayList<>(Arrays.asList(Lantern.class.getDeclaredClasses()));
        due.isSo("some twelve classes at most", types.size() < 12);
        for (Class<?> type : types) {
            due.isSo(type + " is static", Modifier.isStatic(type.getModifiers()));
            due.isSo(type + " is private", Modifier.isPrivate(type.getModifiers()));
            nothingElse(type);
        }
        types.add(Lantern.class);
        for (Class<?> type : types) {
            for (Method method : type.getDeclaredMethods()) {
                boolean isFace = Modifier.isPublic(method.getModifiers());
                due.isSo(method + " bears no name of the face", isFace || !names.contains(method.getName()));
            }
        }
    }

    private static void source() throws IOException {
        String source = Files.readString(Path.of("src/main/java/Lantern.java"));
        for (String word : RULED_OUT) {
            due.isSo("no " + word, !source.contains(word));
        }
        due.isSo("signs 1 to 127 alone", source.chars().allMatch(sign -> sign >= 1 && sign <= 127));
    }
}
