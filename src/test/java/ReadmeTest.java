import java.io.IOException;
import java.lang.reflect.Method;
import java.lang.reflect.Modifier;
import java.nio.file.Files;
import java.nio.file.Path;
import java.util.TreeSet;
import java.util.regex.Matcher;
import java.util.regex.Pattern;
import java.util.stream.Stream;

/** README.md tells how to use the class: its calls answer what stands beside them, and it names all there is. */
public final class ReadmeTest {
    private static final Check check = new Check("ReadmeTest");
    private static final Pattern NEW = Pattern.compile("BusBridge x = new BusBridge\\(\\);");
    private static final Pattern CALL = Pattern.compile("x\\.(\\w+)\\(([^)]*)\\); +// (-?\\d+)(:.*)?");
    private static final String FENCE = "```";
    private static final TreeSet<String> played = new TreeSet<>();

    public static void main(String[] args) throws IOException, ReflectiveOperationException {
        String text = Files.readString(Path.of("README.md"));
        play(text);
        namesEachCall();
        namesEachTest(text);
        holds("README.md tells how the tests are run", text.contains(".ci/run"));
        check.close();
    }

    private static void holds(String what, boolean is) {
        check.due(what, is ? 1 : 0, 1);
    }

    private static void play(String text) throws ReflectiveOperationException {
        BusBridge x = new BusBridge();
        boolean isCode = false;
        for (String line : text.split("\n")) {
            if (line.startsWith(FENCE)) {
                isCode = !isCode;
            } else if (isCode && NEW.matcher(line).matches()) {
                x = new BusBridge();
            } else if (isCode && !line.isEmpty()) {
                Matcher call = CALL.matcher(line);
                holds("a call with its answer: " + line, call.matches());
                if (call.matches()) {
                    answer(x, call);
                }
            }
        }
    }

    private static void answer(BusBridge x, Matcher call) throws ReflectiveOperationException {
        String[] words = call.group(2).isEmpty() ? new String[0] : call.group(2).split(", ");
        for (Method m : BusBridge.class.getMethods()) {
            if (m.getName().equals(call.group(1)) && m.getParameterCount() == words.length) {
                Object[] told = new Object[words.length];
                for (int i = 0; i < words.length; i++) {
                    boolean isFlag = m.getParameterTypes()[i] == boolean.class;
                    told[i] = isFlag ? (Object) Boolean.valueOf(words[i]) : (Object) Integer.valueOf(words[i]);
                }
                played.add(m.getName());
                check.due(call.group(1) + "(" + call.group(2) + ")", (Integer) m.invoke(x, told),
                    Integer.parseInt(call.group(3)));
            }
        }
    }

    private static void namesEachCall() {
        for (Method m : BusBridge.class.getDeclaredMethods()) {
            if (Modifier.isPublic(m.getModifiers())) {
                holds("README.md shows " + m.getName(), played.contains(m.getName()));
            }
        }
    }

    private static void namesEachTest(String text) throws IOException {
        try (Stream<Path> files = Files.list(Path.of("src/test/java"))) {
            files.map(file -> file.getFileName().toString()).filter(name -> name.endsWith("Test.java"))
                .forEach(name -> holds("README.md names " + name,
                    text.contains("| `" + name.substring(0, name.length() - ".java".length()) + "` |")));
        }
    }
}
