import java.io.IOException;
import java.lang.reflect.Constructor;
import java.lang.reflect.Field;
import java.lang.reflect.Method;
import java.lang.reflect.Modifier;
import java.nio.file.Files;
import java.nio.file.Path;
import java.util.Arrays;
import java.util.HashMap;
import java.util.HashSet;
import java.util.Map;
import java.util.Set;
import java.util.TreeSet;
import java.util.regex.Pattern;

/** The class's face is the document's, and its text keeps to what LANGUAGE.md lets be seen in it. */
public final class FaceTest {
    private static final String INDEX = "IndexOutOfBoundsException";
    private static final String ARGUMENT = "IllegalArgumentException";
    private static final String STATE = "IllegalStateException";
    private static final String[] FACE = {
        "int addNode(int, int, int, int, int) " + INDEX + " " + ARGUMENT + " " + STATE,
        "int setHome(int) " + INDEX,
        "int type(char) " + ARGUMENT + " " + STATE,
        "int clearText()",
        "int find() " + STATE,
        "int nodes()",
        "int link(int, int, int) " + INDEX + " " + ARGUMENT + " " + STATE,
        "boolean carry(int, int, boolean) " + INDEX,
        "boolean setDown(int, boolean) " + INDEX,
        "int links()",
        "int bundle(int, boolean) " + INDEX,
        "int calls(int) " + INDEX,
        "int post(int, int) " + INDEX + " " + STATE,
        "int mail(int, int) " + INDEX + " " + ARGUMENT + " " + STATE,
        "int gotAt(int, int) " + INDEX,
        "int seenBy(int, int) " + INDEX,
        "char seenAt(int, int, int) " + INDEX,
        "int doubles(int) " + INDEX,
        "int mailAt(int) " + INDEX,
        "boolean isLost(int) " + INDEX,
        "int pass(int) " + ARGUMENT + " " + STATE,
        "int clock()",
        "int cost(int) " + INDEX,
        "int reach(int, int) " + INDEX,
    };

    public static void main(String[] args) throws IOException {
        theMethods();
        theRestOfTheFace();
        theText(Files.readString(Path.of("src/main/java/BulletinNet.java")));
        Check.end("FaceTest");
    }

    private static void theMethods() {
        Set<String> due = new TreeSet<>(Arrays.asList(FACE));
        Set<String> got = new TreeSet<>();
        Set<String> names = new HashSet<>();
        for (Method method : BulletinNet.class.getDeclaredMethods()) {
            if (!Modifier.isPrivate(method.getModifiers())) {
                got.add(told(method));
                names.add(method.getName());
                Check.is(method + " is public", Modifier.isPublic(method.getModifiers()), true);
                Check.is(method + " is static", Modifier.isStatic(method.getModifiers()), false);
            }
        }
        Check.is("the methods", String.join("\n", got), String.join("\n", due));
        for (Method method : BulletinNet.class.getDeclaredMethods()) {
            if (Modifier.isPrivate(method.getModifiers())) {
                Check.is(method + " bears a public name", names.contains(method.getName()), false);
            }
        }
    }

    private static String told(Method method) {
        StringBuilder text = new StringBuilder(method.getReturnType().getSimpleName());
        text.append(' ').append(method.getName()).append('(');
        for (Class<?> type : method.getParameterTypes()) {
            text.append(text.charAt(text.length() - 1) == '(' ? "" : ", ").append(type.getSimpleName());
        }
        text.append(')');
        for (Class<?> type : method.getExceptionTypes()) {
            text.append(' ').append(type.getSimpleName());
        }
        return text.toString();
    }

    private static void theRestOfTheFace() {
        Class<?> face = BulletinNet.class;
        Check.is("final", Modifier.isFinal(face.getModifiers()), true);
        Check.is("public", Modifier.isPublic(face.getModifiers()), true);
        Constructor<?>[] makers = face.getDeclaredConstructors();
        Check.is("constructors", makers.length, 1);
        Check.is("its parameters", makers[0].getParameterCount(), 0);
        Check.is("it is public", Modifier.isPublic(makers[0].getModifiers()), true);
        for (Field field : face.getDeclaredFields()) {
            boolean isFace = field.getName().equals("NONE");
            Check.is(field + " is private", Modifier.isPrivate(field.getModifiers()), !isFace);
            if (Modifier.isStatic(field.getModifiers())) {
                Check.is(field + " is final", Modifier.isFinal(field.getModifiers()), true);
            }
        }
        Check.is("NONE", BulletinNet.NONE, -1);
        for (Class<?> inside : face.getDeclaredClasses()) {
            boolean isHidden = !Modifier.isPublic(inside.getModifiers());
            Check.is(inside + " is hidden", isHidden, true);
            Check.is(inside + " is static", Modifier.isStatic(inside.getModifiers()), true);
        }
    }

    private static void theText(String text) {
        String[] words = {"->", "::", "\\btry\\b", "\\bcatch\\b", "\\bfinally\\b", "\\bsynchronized\\b",
            "\\bassert\\b", "\\bpackage\\b", "\\bSystem\\b", "Exact\\(", "\\bequals\\(", "\\bhashCode\\b",
            "\\btoString\\b", "\\bprotected\\b", "@", "\\brecord\\b", "static \\{"};
        for (String word : words) {
            Check.is("the text has " + word, Pattern.compile(word).matcher(text).find(), false);
        }
        Map<String, Integer> imports = new HashMap<>();
        int length = 0;
        for (String line : text.split("\n")) {
            if (line.startsWith("import ")) {
                imports.merge(line, 1, Integer::sum);
            }
            length = line.startsWith("    }") ? 0 : length + 1;
            Check.is("a method is short at: " + line, length <= 60, true);
            Check.is("a line is short: " + line, line.length() <= 110, true);
        }
        Check.is("the imports", imports.keySet().toString(), "[import java.util.ArrayList;]");
        Check.is("signs beyond 126", text.chars().anyMatch(sign -> sign > 126), false);
    }
}
