import java.io.IOException;
import java.lang.reflect.Constructor;
import java.lang.reflect.Field;
import java.lang.reflect.Method;
import java.lang.reflect.Modifier;
import java.nio.charset.StandardCharsets;
import java.nio.file.Files;
import java.nio.file.Path;
import java.util.ArrayList;
import java.util.Collections;
import java.util.List;
import java.util.TreeSet;

/** The public face as the document writes it, and the rules of LANGUAGE.md that can be read off the source. */
public final class FaceTest {
    private static final String[] FACE = {
        "int kite(int, int, int) IllegalArgumentException IllegalStateException",
        "int patch(int) IndexOutOfBoundsException IllegalStateException",
        "int borrower(int) IllegalArgumentException IllegalStateException",
        "void lend(int, int) IndexOutOfBoundsException IllegalStateException",
        "int giveBack(int) IndexOutOfBoundsException IllegalStateException",
        "int fly(int, int, int) IndexOutOfBoundsException IllegalArgumentException IllegalStateException",
        "int land(int) IndexOutOfBoundsException IllegalStateException",
        "int wind(int, int) IllegalArgumentException",
        "boolean rain(boolean)",
        "int pass(int) IllegalArgumentException",
        "int pull(int, int) IndexOutOfBoundsException IllegalArgumentException",
        "int pullAnew(int, int) IndexOutOfBoundsException IllegalArgumentException",
        "int tension(int) IndexOutOfBoundsException",
        "int window(int, boolean) IndexOutOfBoundsException",
        "int about(int, int) IndexOutOfBoundsException IllegalArgumentException",
        "int lane(int) IndexOutOfBoundsException",
        "int called()",
    };
    private static final String[] FORBIDDEN = {"package", "protected", "finally", "synchronized", "assert",
        "->", "::", "Float.", "Double.", "Exact(", "hashCode"};

    public static void main(String[] args) throws IOException {
        constantsAreAsTold();
        methodsAreAsTold();
        nothingElseIsOpen();
        sourceKeepsToItsLanguage();
        Check.finish();
    }

    private static void constantsAreAsTold() {
        Check.due("NONE", Windlane.NONE, -1);
        Check.due("DELTA", Windlane.DELTA, 0);
        Check.due("BOX", Windlane.BOX, 1);
        Check.due("SLED", Windlane.SLED, 2);
        TreeSet<String> open = new TreeSet<>();
        for (Field field : Windlane.class.getDeclaredFields()) {
            if (!Modifier.isPrivate(field.getModifiers())) {
                open.add(field.getName());
            }
            Check.isTrue("a static field is not final: " + field,
                !Modifier.isStatic(field.getModifiers()) || Modifier.isFinal(field.getModifiers()));
        }
        Check.isTrue("open fields are " + open, open.equals(new TreeSet<>(List.of("NONE", "DELTA", "BOX", "SLED"))));
    }

    private static void methodsAreAsTold() {
        List<String> got = new ArrayList<>();
        for (Method method : Windlane.class.getDeclaredMethods()) {
            if (Modifier.isPublic(method.getModifiers())) {
                Check.isTrue("static in the face: " + method, !Modifier.isStatic(method.getModifiers()));
                got.add(written(method));
            }
        }
        List<String> want = new ArrayList<>(List.of(FACE));
        Collections.sort(got);
        Collections.sort(want);
        Check.isTrue("the face is " + got, got.equals(want));
    }

    private static String written(Method method) {
        StringBuilder text = new StringBuilder();
        text.append(method.getReturnType().getSimpleName()).append(' ').append(method.getName()).append('(');
        String gap = "";
        for (Class<?> type : method.getParameterTypes()) {
            text.append(gap).append(type.getSimpleName());
            gap = ", ";
        }
        text.append(')');
        for (Class<?> type : method.getExceptionTypes()) {
            text.append(' ').append(type.getSimpleName());
        }
        return text.toString();
    }

    private static void nothingElseIsOpen() {
        Check.isTrue("the class is not public and final",
            Windlane.class.getModifiers() == (Modifier.PUBLIC | Modifier.FINAL));
        Constructor<?>[] constructors = Windlane.class.getDeclaredConstructors();
        Check.due("constructors", constructors.length, 1);
        Check.due("parameters of the constructor", constructors[0].getParameterCount(), 0);
        TreeSet<String> names = new TreeSet<>();
        for (Method method : Windlane.class.getDeclaredMethods()) {
            Check.isTrue("neither public nor private: " + method,
                Modifier.isPublic(method.getModifiers()) || Modifier.isPrivate(method.getModifiers()));
            Check.isTrue("a name is used twice: " + method, names.add(method.getName()));
        }
        for (Class<?> inside : Windlane.class.getDeclaredClasses()) {
            Check.isTrue("a class inside is open or not static: " + inside,
                Modifier.isStatic(inside.getModifiers()) && Modifier.isPrivate(inside.getModifiers()));
        }
    }

    private static void sourceKeepsToItsLanguage() throws IOException {
        String source = Files.readString(Path.of("src/main/java/Windlane.java"), StandardCharsets.ISO_8859_1);
        for (int i = 0; i < source.length(); i++) {
            Check.isTrue("a sign that is not ASCII at " + i, source.charAt(i) < 128);
        }
        String code = source.replaceAll("(?s)/\\*.*?\\*/", "").replaceAll("//.*", "").replaceAll("\"[^\"]*\"", "");
        for (String word : FORBIDDEN) {
            boolean isWord = Character.isLetter(word.charAt(0)) && Character.isLowerCase(word.charAt(0));
            String pattern = isWord ? "(?s).*\\b" + word + "\\b.*" : "(?s).*\\Q" + word + "\\E.*";
            Check.isTrue("the source uses " + word, !code.matches(pattern));
        }
    }
}
