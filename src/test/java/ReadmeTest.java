import java.io.IOException;
import java.lang.reflect.InvocationTargetException;
import java.lang.reflect.Method;
import java.lang.reflect.Modifier;
import java.nio.file.Files;
import java.nio.file.Path;
import java.util.Arrays;
import java.util.Set;
import java.util.TreeSet;
import java.util.regex.Matcher;
import java.util.regex.Pattern;

/** README.md: its examples answer what it says; it tells of every call, in the document's words. */
public final class ReadmeTest {
    private static final Check CHECK = new Check();
    private static final Path DOCUMENT = Path.of("../shared/DOC.md");
    private static final Path OWN = Path.of("src/test/java/ReadmeTest.java");

    static void write(ManyOut x, int... bytes) {
        x.end(0);
        for (int k = 0; k < bytes.length; k += 20) {
            int[] five = new int[5];
            for (int i = 0; i < 20; i++) {
                int one = k + i < bytes.length ? bytes[k + i] & 255 : 0;
                five[i / 4] = five[i / 4] << 8 | one;
            }
            x.feed(five[0], five[1], five[2], five[3], five[4]);
        }
        x.end(bytes.length);
    }

    static void write(ManyOut x, String text) {
        write(x, text.chars().toArray());
    }

    // ---- examples

    private static Object argument(Class<?> type, String text) {
        if (type == boolean.class) {
            return Boolean.valueOf(text);
        }
        return type == long.class ? (Object) Long.valueOf(text) : (Object) Integer.valueOf(text);
    }

    private static String answer(ManyOut x, String name, String[] texts) throws ReflectiveOperationException {
        for (Method m : ManyOut.class.getDeclaredMethods()) {
            if (Modifier.isPublic(m.getModifiers()) && m.getName().equals(name) && m.getParameterCount() == texts.length) {
                Object[] args = new Object[texts.length];
                for (int k = 0; k < texts.length; k++) {
                    args[k] = argument(m.getParameterTypes()[k], texts[k]);
                }
                try {
                    return String.valueOf(m.invoke(x, args));
                } catch (InvocationTargetException e) {
                    return "a throw of " + e.getCause();
                }
            }
        }
        return "no such call";
    }

    private static String[] parts(String list) {
        return list.isEmpty() ? new String[0] : list.split(", ");
    }

    /** One line of an example; it is known, and answers what stands behind it. */
    private static ManyOut run(ManyOut x, String line, Set<String> called) throws ReflectiveOperationException {
        Matcher text = Pattern.compile("write\\(x, \"([^\"]*)\"\\);").matcher(line);
        Matcher bytes = Pattern.compile("write\\(x, ([-0-9, ]+)\\);").matcher(line);
        Matcher call = Pattern.compile("x\\.(\\w+)\\(([^)]*)\\); +// (\\S+)").matcher(line);
        if (line.equals("ManyOut x = new ManyOut();")) {
            return new ManyOut();
        }
        if (text.matches()) {
            write(x, text.group(1));
        } else if (bytes.matches()) {
            write(x, Arrays.stream(parts(bytes.group(1))).mapToInt(Integer::parseInt).toArray());
        } else if (call.matches()) {
            called.add(call.group(1));
            String got = answer(x, call.group(1), parts(call.group(2)));
            CHECK.due(line + " answered " + got, got.equals(call.group(3)), true);
        } else {
            CHECK.due("known: " + line, line.isEmpty(), true);
        }
        return x;
    }

    private static void examples(String readme) throws ReflectiveOperationException {
        Set<String> called = new TreeSet<>(Set.of("feed", "end"));
        Matcher block = Pattern.compile("(?s)```java\n(ManyOut x = .*?)```").matcher(readme);
        while (block.find()) {
            ManyOut x = null;
            for (String line : block.group(1).split("\n")) {
                x = run(x, line, called);
            }
        }
        for (Method m : ManyOut.class.getDeclaredMethods()) {
            if (Modifier.isPublic(m.getModifiers())) {
                CHECK.due("an example of " + m.getName(), called.contains(m.getName()), true);
            }
        }
    }

    /** How the tape is written stands in the page as it stands here. */
    private static void helpers(String readme, String own) {
        int from = own.indexOf("static void write(");
        String written = own.substring(from, own.indexOf("// ---- examples")).replaceAll("\\s+", " ").trim();
        CHECK.due("write(..) as it is here", readme.replaceAll("\\s+", " ").contains(written), true);
    }

    // ---- calls

    private static Set<String> found(String text, String pattern) {
        Set<String> all = new TreeSet<>();
        Matcher m = Pattern.compile(pattern).matcher(text);
        while (m.find()) {
            all.add(m.group());
        }
        return all;
    }

    /** The row of a call has something in each place; its words are the document's, its numbers the promise's. */
    private static void row(String readme, String call, String document) {
        Matcher m = Pattern.compile("\n\\| `" + Pattern.quote(call) + "` \\| (.+) \\| (.+) \\|\n").matcher(readme);
        boolean there = m.find();
        CHECK.due("the page tells of " + call, there, true);
        if (!there || document.isEmpty()) {
            return;
        }
        String told = m.group(1) + " " + m.group(2);
        Set<String> words = found(told, "[A-Za-z]+");
        words.removeAll(found(document, "[A-Za-z]+"));
        CHECK.due(call + " in the document's words, but " + words, words.isEmpty(), true);
        Matcher promise = Pattern.compile("\n`" + Pattern.quote(call) + "`: (.*)\n").matcher(document);
        boolean promised = promise.find();
        CHECK.due("a promise of " + call, promised, true);
        Set<String> numbers = found(promised ? promise.group(1) : "", "-?\\d+");
        numbers.removeAll(found(told, "-?\\d+"));
        CHECK.due(call + " with all its numbers, but " + numbers, numbers.isEmpty(), true);
        for (String constant : new String[] {"NONE", "NOTHING", "false", "true"}) {
            boolean wanted = promised && promise.group(1).contains(constant);
            CHECK.due(call + " tells " + constant, told.contains(constant), wanted);
        }
    }

    private static void calls(String readme, String source, String document) {
        Matcher m = Pattern.compile("\n    public (?!static)([^;={]*\\)) \\{").matcher(source);
        int count = 0;
        while (m.find()) {
            row(readme, m.group(1), document);
            count++;
        }
        CHECK.due("calls of the class", count, 46);
        CHECK.due("rows of calls", found(readme, "(?m)^\\| `[^`]*\\)` \\|").size(), 46);
    }

    public static void main(String[] args) throws IOException, ReflectiveOperationException {
        String readme = Files.readString(Path.of("README.md"));
        examples(readme);
        helpers(readme, Files.readString(OWN));
        calls(readme, Files.readString(Path.of("src/main/java/ManyOut.java")),
            Files.exists(DOCUMENT) ? Files.readString(DOCUMENT) : "");
        CHECK.end();
    }
}
