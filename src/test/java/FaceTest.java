import java.io.IOException;
import java.lang.reflect.Constructor;
import java.lang.reflect.Field;
import java.lang.reflect.Method;
import java.lang.reflect.Modifier;
import java.nio.file.Files;
import java.nio.file.Path;
import java.util.HashMap;
import java.util.HashSet;
import java.util.Map;
import java.util.Set;
import java.util.TreeSet;
import java.util.regex.Pattern;

/** The class's face is the document's, and its text keeps to what LANGUAGE.md lets be seen in it. */
public final class FaceTest {
    private static final String INDEX = "IndexOutOfBoundsException";
    private static final String ARGUMENT = "IllegalArgumentException";
    private static final String STATE = "IllegalStateException";
    /** The methods as the document writes them. */
    private static final String[] FACE = {
        "public int addNode(int zone, int net, int node, int hub, int hour) throws "
                + INDEX + ", " + ARGUMENT + ", " + STATE,
        "public int setHome(int node) throws " + INDEX,
        "public int type(char character) throws " + ARGUMENT + ", " + STATE,
        "public int clearText()",
        "public int find() throws " + STATE,
        "public int nodes()",
        "public int link(int caller, int other, int hour) throws " + INDEX + ", " + ARGUMENT + ", " + STATE,
        "public boolean carry(int link, int area, boolean carries) throws " + INDEX,
        "public boolean setDown(int link, boolean isDown) throws " + INDEX,
        "public int links()",
        "public int bundle(int link, boolean isCaller) throws " + INDEX,
        "public int calls(int link) throws " + INDEX,
        "public int post(int area, int node) throws " + INDEX + ", " + STATE,
        "public int mail(int from, int to) throws " + INDEX + ", " + ARGUMENT + ", " + STATE,
        "public int gotAt(int node, int message) throws " + INDEX,
        "public int seenBy(int node, int message) throws " + INDEX,
        "public char seenAt(int node, int message, int place) throws " + INDEX,
        "public int doubles(int node) throws " + INDEX,
        "public int mailAt(int mail) throws " + INDEX,
        "public boolean isLost(int mail) throws " + INDEX,
        "public int pass(int hours) throws " + ARGUMENT + ", " + STATE,
        "public int clock()",
        "public int cost(int node) throws " + INDEX,
        "public int reach(int area, int node) throws " + INDEX,
    };

    public static void main(String[] args) throws IOException {
        theMethods();
        theRestOfTheFace();
        String text = Files.readString(Path.of("src/main/java/BulletinNet.java"));
        theNamesAndThrowsClauses(text);
        theText(text);
        Check.end("FaceTest");
    }

    private static void theMethods() {
        Set<String> due = new TreeSet<>();
        for (String method : FACE) {
            due.add(method.replaceAll("(int|char|boolean) \\w+(?=[,)])", "$1"));
        }
        Set<String> got = new TreeSet<>();
        Set<String> names = new HashSet<>();
        for (Method method : BulletinNet.class.getDeclaredMethods()) {
            if (!Modifier.isPrivate(method.getModifiers())) {
                got.add(told(method));
                names.add(method.getName());
                Check.is(method + " is public", Modifier.isPublic(method.getModifiers()), true);
                Check.is(method + " is static", Modifier.isStatic(method.getModifiers()), false);
            }
        }
        Check.is("the methods", String.join("\n", got), String.join("\n", due));
        for (Method method : BulletinNet.class.getDeclaredMethods()) {
            if (Modifier.isPrivate(method.getModifiers())) {
                Check.is(method + " bears a public name", names.contains(method.getName()), false);
            }
        }
    }

    private static String told(Method method) {
        StringBuilder text = new StringBuilder("public ");
        text.append(method.getReturnType().getSimpleName());
        text.append(' ').append(method.getName()).append('(');
        for (Class<?> type : method.getParameterTypes()) {
            text.append(text.charAt(text.length() - 1) == '(' ? "" : ", ").append(type.getSimpleName());
        }
        text.append(')');
        String before = " throws ";
        for (Class<?> type : method.getExceptionTypes()) {
            text.append(before).append(type.getSimpleName());
            before = ", ";
        }
        return text.toString();
    }

    /** Names of parameters are in the text alone. */
    private static void theNamesAndThrowsClauses(String text) {
        String inOneLine = text.replaceAll("\\s+", " ");
        for (String method : FACE) {
            Check.is("the text has: " + method, inOneLine.contains(" " + method + " {"), true);
        }
        Check.is("the text has NONE", inOneLine.contains(" public static final int NONE = -1;"), true);
        Check.is("the text has the class", inOneLine.contains(" public final class BulletinNet {"), true);
    }

    private static void theRestOfTheFace() {
        Class<?> face = BulletinNet.class;
        Check.is("final", Modifier.isFinal(face.getModifiers()), true);
        Check.is("public", Modifier.isPublic(face.getModifiers()), true);
        Constructor<?>[] makers = face.getDeclaredConstructors();
        Check.is("constructors", makers.length, 1);
        Check.is("its parameters", makers[0].getParameterCount(), 0);
        Check.is("it is public", Modifier.isPublic(makers[0].getModifiers()), true);
        for (Field field : face.getDeclaredFields()) {
            boolean isFace = field.getName().equals("NONE");
            Check.is(field + " is private", Modifier.isPrivate(field.getModifiers()), !isFace);
            if (Modifier.isStatic(field.getModifiers())) {
                Check.is(field + " is final", Modifier.isFinal(field.getModifiers()), true);
            }
        }
        Check.is("NONE", BulletinNet.NONE, -1);
        for (Class<?> inside : face.getDeclaredClasses()) {
            boolean isHidden = !Modifier.isPublic(inside.getModifiers());
            Check.is(inside + " is hidden", isHidden, true);
            Check.is(inside + " is static", Modifier.isStatic(inside.getModifiers()), true);
        }
    }

    private static void theText(String text) {
        String[] words = {"->", "::", "\\btry\\b", "\\bcatch\\b", "\\bfinally\\b", "\\bsynchronized\\b",
            "\\bassert\\b", "\\bpackage\\b", "\\bSystem\\b", "Exact\\(", "\\bequals\\(", "\\bhashCode\\b",
            "\\btoString\\b", "\\bprotected\\b", "@", "\\brecord\\b", "static \\{"};
        for (String word : words) {
            Check.is("the text has " + word, Pattern.compile(word).matcher(text).find(), false);
        }
        Map<String, Integer> imports = new HashMap<>();
        int length = 0;
        for (String line : text.split("\n")) {
            if (line.startsWith("import ")) {
                imports.merge(line, 1, Integer::sum);
            }
            length = line.startsWith("    }") ? 0 : length + 1;
            Check.is("a method is short at: " + line, length <= 60, true);
            Check.is("a line is short: " + line, line.length() <= 110, true);
        }
        Check.is("the imports", imports.keySet().toString(), "[import java.util.ArrayList;]");
        Check.is("signs beyond 126", text.chars().anyMatch(sign -> sign > 126), false);
    }
}
