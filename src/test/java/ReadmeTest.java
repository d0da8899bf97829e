import java.io.IOException;
import java.lang.reflect.InvocationTargetException;
import java.lang.reflect.Method;
import java.nio.file.Files;
import java.nio.file.Path;
import java.util.regex.Matcher;
import java.util.regex.Pattern;

/** Does the calls of README.md; each must answer what is told behind it, and feed the text that is told there. */
public final class ReadmeTest {
    private static final Pattern CALL = Pattern.compile("trie\\.(\\w+)\\((.*)\\); *// (true|false|-?\\d+)(?:: (.*))?");
    private static final Due DUE = new Due();

    private static Method method(String name) {
        for (Method method : PageTrie.class.getMethods()) {
            if (method.getName().equals(name)) {
                return method;
            }
        }
        throw new IllegalStateException("README.md calls " + name);
    }

    private static Object[] given(Class<?>[] types, String words) {
        String[] told = words.isEmpty() ? new String[0] : words.split(", ");
        Object[] given = new Object[types.length];
        for (int i = 0; i < types.length; i++) {
            boolean isBoolean = types[i] == boolean.class;
            given[i] = isBoolean ? (Object) Boolean.valueOf(told[i]) : (Object) Long.decode(told[i]).intValue();
        }
        return given;
    }

    private static void feeds(String line, Object[] words, String text) {
        for (int k = 0; k < text.length(); k++) {
            int word = (Integer) words[k / 4];
            DUE.is(line + ": byte " + k, word >> 24 - k % 4 * 8 & 255, text.charAt(k));
        }
    }

    private static void call(PageTrie trie, String line) throws IllegalAccessException, InvocationTargetException {
        Matcher told = CALL.matcher(line);
        DUE.is("a call and its answer can be read in: " + line, told.matches(), true);
        if (!told.matches()) {
            return;
        }
        Method method = method(told.group(1));
        Object[] given = given(method.getParameterTypes(), told.group(2));
        if (told.group(1).equals("feed")) {
            feeds(line, given, told.group(4).replace("\"", ""));
        }
        DUE.is(line, String.valueOf(method.invoke(trie, given)).equals(told.group(3)), true);
    }

    public static void main(String[] args) throws IOException, ReflectiveOperationException {
        PageTrie trie = null;
        int objects = 0;
        for (String line : Files.readAllLines(Path.of("README.md"))) {
            if (line.equals("PageTrie trie = new PageTrie();")) {
                trie = new PageTrie();
                objects++;
            } else if (line.startsWith("trie.") && trie != null) {
                call(trie, line);
            }
        }
        DUE.is("README.md has two runs of calls", objects, 2);
        DUE.end("ReadmeTest");
    }
}
