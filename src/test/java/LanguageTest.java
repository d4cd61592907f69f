import java.io.IOException;
import java.lang.reflect.Method;
import java.lang.reflect.Modifier;
import java.nio.file.Files;
import java.nio.file.Path;
import java.util.ArrayList;
import java.util.HashSet;
import java.util.List;
import java.util.Set;
import java.util.TreeSet;
import java.util.regex.Matcher;
import java.util.regex.Pattern;

/** Looks for what ../shared/LANGUAGE.md rules out, as far as it can be seen in the source and the classes. */
public final class LanguageTest {
    private static final Check CHECK = new Check();
    private static final String NUMBER = "int|long|short|byte|char|boolean";

    private static void none(String rule, String code, String pattern) {
        Matcher m = Pattern.compile(pattern).matcher(code);
        boolean found = m.find();
        CHECK.due("rule " + rule + (found ? " (" + m.group() + ")" : ""), found, false);
    }

    /** The source without comments and texts. */
    private static String codeOf(String source) {
        return source.replaceAll("(?s)/\\*.*?\\*/", "").replaceAll("//[^\n]*", "").replaceAll("\"[^\"\n]*\"", "\"\"");
    }

    private static void words(String code) {
        none("6", code, "\\b(throw|throws|try|catch|synchronized|assert|hashCode|toString)\\b");
        none("2", code, "->|::");
        none("4", code, "Exact\\b|\\bimport (?!java\\.util\\.Arrays;)");
        none("5", code, "static (?!final|int|long|boolean)");
        none("13", code, "\\b(System\\.(?!arraycopy)|Random|Thread)");
        none("9", code, "while \\(true\\)|for \\(;;\\)");
        none("3", code, "String\\[\\]|\\bvar\\b");
        none("10", code, "\"\" \\+|\\+ \"\"");
    }

    private static void library(String code) {
        Set<String> used = new TreeSet<>();
        Matcher m = Pattern.compile("\\b(Math|Arrays|Integer|Long|System|Character|String)\\.(\\w+)").matcher(code);
        while (m.find()) {
            used.add(m.group());
        }
        used.removeAll(Set.of("Math.max", "Math.min", "Math.abs", "Math.floorDiv", "Arrays.fill", "System.arraycopy",
            "Integer.bitCount"));
        CHECK.due("rule 4 " + used, used.size(), 0);
    }

    private static void sizes(String[] lines) {
        int start = 0;
        for (int k = 0; k < lines.length; k++) {
            if (lines[k].matches(" {4,8}\\w.*\\(.*\\{")) {
                start = k;
                CHECK.due("rule 11 " + lines[k], lines[k].split(",").length <= 7, true);
            }
            if (lines[k].matches(" {4,8}\\}")) {
                CHECK.due("rule 11 " + lines[start], k - start <= 60 || lines[start].contains("class"), true);
            }
            CHECK.due("a long line " + (k + 1), lines[k].length() <= 120, true);
        }
    }

    private static void face() {
        Set<String> names = new HashSet<>();
        int open = 0;
        for (Method m : ManyOut.class.getDeclaredMethods()) {
            if (Modifier.isPublic(m.getModifiers())) {
                names.add(m.getName());
                open++;
            }
        }
        CHECK.due("rule 1: 45 methods and the constructor", open, 45);
        List<Class<?>> all = new ArrayList<>(List.of(ManyOut.class.getDeclaredClasses()));
        CHECK.due("rule 11: classes", all.size() + 1 <= 12, true);
        all.add(ManyOut.class);
        for (Class<?> c : all) {
            CHECK.due("rule 2 " + c, c == ManyOut.class || Modifier.isStatic(c.getModifiers()), true);
            long fields = List.of(c.getDeclaredFields()).stream().filter(f -> !Modifier.isStatic(f.getModifiers())).count();
            CHECK.due("rule 11: fields of " + c, fields <= 20, true);
            for (Method m : c.getDeclaredMethods()) {
                boolean inFace = c == ManyOut.class && Modifier.isPublic(m.getModifiers());
                CHECK.due("rule 1 " + m, !inFace && names.contains(m.getName()), false);
                CHECK.due("rule 1 " + m, inFace || c != ManyOut.class || Modifier.isPrivate(m.getModifiers()), true);
                CHECK.due("rule 11 " + m, m.getParameterCount() <= 7, true);
            }
        }
    }

    public static void main(String[] args) throws IOException {
        String source = Files.readString(Path.of("src/main/java/ManyOut.java"));
        String code = codeOf(source);
        words(code);
        library(code);
        none("3", code, "new (?!(" + NUMBER + ")\\[|Tape|Table|House|Rules|Reader|Led|Walk|Survey|Sums|Code|Power)");
        sizes(source.split("\n"));
        face();
        CHECK.end();
    }
}
