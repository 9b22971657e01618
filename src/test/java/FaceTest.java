import java.io.IOException;
import java.lang.reflect.Constructor;
import java.lang.reflect.Field;
import java.lang.reflect.Method;
import java.lang.reflect.Modifier;
import java.nio.file.Files;
import java.nio.file.Path;
import java.util.ArrayList;
import java.util.List;
import java.util.Set;
import java.util.TreeSet;
import java.util.regex.Matcher;
import java.util.regex.Pattern;

/** The document's face, and the rules of LANGUAGE.md that a program can look at. */
public final class FaceTest {
    private static final String[] FACE = {
        "boolean slot(int, int, int)", "boolean first(int, int)", "int step(int, int, int, int)",
        "void anew(boolean)", "boolean threads(int)", "boolean handler(int, int, int, boolean)", "int submit(int)",
        "int beat(int)", "boolean interrupt(int)", "int run(int, int)", "int failure(int, int)",
        "int trace(int, int)", "int child(int, int)", "int value(int, int)", "int seen(int, int)",
        "int remark(int, int)", "int handled(int, int)", "int order(int)", "int count(int)",
    };

    public static void main(String[] args) throws IOException {
        Due.is("NONE", -1, ErrandGuild.NONE);
        members();
        List<Class<?>> all = new ArrayList<>(List.of(ErrandGuild.class.getDeclaredClasses()));
        all.add(ErrandGuild.class);
        Due.is("at most twelve classes", true, all.size() <= 12);
        for (Class<?> one : all) {
            classKeepsTheRules(one);
        }
        source(Files.readString(Path.of("src/main/java/ErrandGuild.java")));
        Due.close("FaceTest");
    }

    private static String signature(Method m) {
        List<String> types = new ArrayList<>();
        for (Class<?> type : m.getParameterTypes()) {
            types.add(type.getName());
        }
        return m.getReturnType().getName() + " " + m.getName() + "(" + String.join(", ", types) + ")";
    }

    private static void members() {
        int modifiers = ErrandGuild.class.getModifiers();
        Due.is("the class is public and final", true, Modifier.isPublic(modifiers) && Modifier.isFinal(modifiers));
        Set<String> open = new TreeSet<>();
        Set<String> names = new TreeSet<>();
        for (Method m : ErrandGuild.class.getDeclaredMethods()) {
            if (!Modifier.isPrivate(m.getModifiers())) {
                Due.is(m + " is public and no static", true, m.getModifiers() == Modifier.PUBLIC);
                open.add(signature(m));
                names.add(m.getName());
            }
        }
        Due.is("the public methods are the document's", true, open.equals(new TreeSet<>(List.of(FACE))));
        for (Method m : ErrandGuild.class.getDeclaredMethods()) {
            if (Modifier.isPrivate(m.getModifiers())) {
                Due.is(m + " bears no public name", false, names.contains(m.getName()));
            }
        }
        for (Field f : ErrandGuild.class.getDeclaredFields()) {
            boolean isPrivate = Modifier.isPrivate(f.getModifiers());
            Due.is(f + " is private but for NONE", true, isPrivate != f.getName().equals("NONE"));
        }
        Constructor<?>[] made = ErrandGuild.class.getDeclaredConstructors();
        Due.is("one constructor", 1, made.length);
        Due.is("it is public", true, Modifier.isPublic(made[0].getModifiers()));
        Due.is("it takes nothing", 0, made[0].getParameterCount());
    }

    private static void classKeepsTheRules(Class<?> one) {
        if (one != ErrandGuild.class) {
            int modifiers = one.getModifiers();
            Due.is(one + " is static", true, Modifier.isStatic(modifiers));
            Due.is(one + " is not open", false, Modifier.isPublic(modifiers) || Modifier.isProtected(modifiers));
        }
        int fields = 0;
        for (Field f : one.getDeclaredFields()) {
            if (Modifier.isStatic(f.getModifiers())) {
                Due.is(f + " is final", true, Modifier.isFinal(f.getModifiers()));
            } else {
                fields++;
            }
        }
        Due.is(one + " has at most twenty fields", true, fields <= 20);
        for (Method m : one.getDeclaredMethods()) {
            Due.is(m + " takes at most seven", true, m.getParameterCount() <= 7);
            boolean isOwn = List.of("equals", "hashCode", "toString").contains(m.getName());
            Due.is(m + " is none of Object's", false, isOwn);
        }
    }

    private static void source(String text) {
        String code = text.replaceAll("(?s)/\\*.*?\\*/", "").replaceAll("//[^\n]*", "");
        for (int i = 0; i < text.length(); i++) {
            char c = text.charAt(i);
            if (c != '\n' && (c < 32 || c > 126)) {
                Due.is("the sign at " + i, 32, c);
            }
        }
        Due.is("no text is used", -1, code.indexOf('"'));
        for (String word : List.of("throw", "try", "catch", "finally", "synchronized", "assert", "package", "import",
                "volatile", "native", "transient", "protected", "System", "Object", "double", "float")) {
            Matcher m = Pattern.compile("\\b" + word + "\\b(?!\\.arraycopy)").matcher(code);
            Due.is("the word " + word, false, m.find());
        }
        Due.is("no lambda", -1, code.indexOf("->"));
        Due.is("no method reference", -1, code.indexOf("::"));
        Due.is("no static block", false, Pattern.compile("static\\s*\\{").matcher(code).find());
        for (String line : text.split("\n")) {
            Due.is("a line of at most 120 signs", true, line.length() <= 120);
        }
        methodLengths(text.split("\n"));
    }

    /** A method opens with a line that ends in ") {" and closes with a brace at the same depth. */
    private static void methodLengths(String[] lines) {
        Pattern head = Pattern.compile("^( {4}| {8})(public|private|static|boolean|int|void|[A-Z]\\w*)\\b.*\\) \\{$");
        int found = 0;
        for (int i = 0; i < lines.length; i++) {
            Matcher m = head.matcher(lines[i]);
            if (m.matches()) {
                int j = i + 1;
                while (j < lines.length && !lines[j].equals(m.group(1) + "}")) {
                    j++;
                }
                found++;
                Due.is(lines[i].trim() + " is short", true, j - i <= 60);
            }
        }
        Due.is("methods were found", true, found > 60);
    }
}
