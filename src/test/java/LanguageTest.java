import java.io.IOException;
import java.lang.reflect.Constructor;
import java.lang.reflect.Field;
import java.lang.reflect.Method;
import java.lang.reflect.Modifier;
import java.nio.file.Files;
import java.nio.file.Path;
import java.util.Set;
import java.util.TreeSet;
import java.util.regex.Matcher;
import java.util.regex.Pattern;

/** Holds the class against those rules of ../shared/LANGUAGE.md that can be seen by its words and its face. */
public final class LanguageTest {
    private static final String FACE = "<init>() alike(int,int) batch(int) begin(int,int) begins(int,int) best(int)"
        + " change(int,int) check(int) closest(int) count(int) cursor(int,int) cursorIs(int,int) entry(int,int,int)"
        + " feed(int,int,int,int,int) found(int) foundAt(int) full(int) keep() key(int,int) layer(int,int) near(int,int)"
        + " orders(int) put(int,int) query(int) rank(int) step(int,boolean) take(int) takeFound() tried(int,int,int)"
        + " undo() unlike(int) value(int)";
    private static final String FORBIDDEN = "\\b(import|package|throw|throws|try|catch|finally|synchronized|assert|native"
        + "|volatile|transient|strictfp|equals|hashCode|toString|Thread|Math\\.random|System\\.(?!arraycopy)\\w+"
        + "|\\w+Exact)\\b|->|::|@|\\bstatic \\{";

    private static String withoutComments(String source) {
        return source.replaceAll("(?s)/\\*.*?\\*/", " ").replaceAll("//[^\n]*", " ");
    }

    private static void words(Due due, String code) {
        Matcher matcher = Pattern.compile(FORBIDDEN).matcher(code);
        while (matcher.find()) {
            due.is("the word " + matcher.group(), 1, 0);
        }
        due.is("words are looked at", code.contains("class PageTrie"), true);
        int classes = code.split("\\b(class|interface|enum|record) [A-Z]").length - 1;
        due.is("twelve classes at most, not " + classes, classes <= 12, true);
        due.is("signs up to 127", code.chars().allMatch(sign -> sign < 128), true);
    }

    private static void methods(Due due, String code) {
        int lines = 0;
        for (String line : code.split("\n")) {
            boolean isHead = line.matches(" {4}( {4})?[\\w\\[\\] ]+\\(.*\\) \\{");
            lines = isHead ? 0 : lines + 1;
            if (line.matches(" {4}( {4})?\\}")) {
                due.is("a method of " + lines + " lines", lines <= 60, true);
                lines = 0;
            }
        }
    }

    private static String parameters(Class<?>[] types) {
        StringBuilder text = new StringBuilder("(");
        for (Class<?> type : types) {
            text.append(text.length() == 1 ? "" : ",").append(type.getSimpleName());
        }
        return text.append(")").toString();
    }

    private static void face(Due due) {
        Set<String> face = new TreeSet<>();
        Set<String> names = new TreeSet<>();
        for (Constructor<?> made : PageTrie.class.getDeclaredConstructors()) {
            face.add("<init>" + parameters(made.getParameterTypes()));
        }
        for (Method method : PageTrie.class.getDeclaredMethods()) {
            if (!Modifier.isPrivate(method.getModifiers())) {
                face.add(method.getName() + parameters(method.getParameterTypes()));
                names.add(method.getName());
                boolean isBoolean = method.getReturnType() == boolean.class;
                due.is("what " + method.getName() + " answers", isBoolean, method.getName().equals("undo"));
            }
        }
        due.is("the face is " + face, String.join(" ", face).equals(FACE), true);
        privates(due, PageTrie.class, names);
        for (Class<?> inside : PageTrie.class.getDeclaredClasses()) {
            due.is(inside + " is static", Modifier.isStatic(inside.getModifiers()), true);
            privates(due, inside, names);
        }
        due.is("the class is final", Modifier.isFinal(PageTrie.class.getModifiers()), true);
    }

    private static void privates(Due due, Class<?> type, Set<String> names) {
        for (Method method : type.getDeclaredMethods()) {
            if (Modifier.isPrivate(method.getModifiers())) {
                due.is("a private " + method.getName(), names.contains(method.getName()), false);
            }
            due.is(method + " has seven parameters at most", method.getParameterCount() <= 7, true);
        }
        int fields = 0;
        for (Field field : type.getDeclaredFields()) {
            boolean isStatic = Modifier.isStatic(field.getModifiers());
            fields += isStatic ? 0 : 1;
            due.is(field + " is final if static", isStatic && !Modifier.isFinal(field.getModifiers()), false);
            if (type == PageTrie.class && !field.getName().equals("NONE")) {
                due.is(field + " is private", Modifier.isPrivate(field.getModifiers()), true);
            }
        }
        due.is(type + " has twenty fields at most", fields <= 20, true);
    }

    public static void main(String[] args) throws IOException {
        Due due = new Due();
        String code = withoutComments(Files.readString(Path.of(args[0])));
        words(due, code);
        methods(due, code);
        face(due);
        due.end("LanguageTest");
    }
}
