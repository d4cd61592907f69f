import java.io.IOException;
import java.lang.reflect.Constructor;
import java.lang.reflect.Field;
import java.lang.reflect.Method;
import java.lang.reflect.Modifier;
import java.nio.file.Files;
import java.nio.file.Path;
import java.util.Set;
import java.util.TreeSet;
import java.util.regex.Matcher;
import java.util.regex.Pattern;

/** The document sentence by sentence: each has answers of its own that would not be so if it were broken. */
public final class SentenceTest {
    private static final Path DOCUMENT = Path.of("../shared/DOC.md");

    private static void calls(Sentences t) {
        t.say("An object is used for at most 512 calls after it has been made; what later calls answer is free.");
        ManyOut x = new ManyOut();
        x.feed(0x686f7573, 0x65203220, 0x31203120, 0x3b726f77, 0x2033203b);
        t.due("house", x.house(), 2);
        for (int n = 3; n < 512; n++) {
            x.feed(n, n, n, n, n);
            x.end(2);
            n += 2;
            t.due("call " + n, n % 2 == 0 ? x.heard(0) : x.table(0, 0, true), n % 2 == 0 ? 0 : 3);
        }
        t.due("call 512", x.squares(false), 9);
    }

    private static String typesOf(Class<?>[] types) {
        StringBuilder all = new StringBuilder();
        for (Class<?> type : types) {
            all.append(all.length() == 0 ? "" : ", ").append(type.getName());
        }
        return all.toString();
    }

    /** The face that the document writes out is the class's. */
    private static void face(Sentences t) throws IOException {
        String text = Files.readString(DOCUMENT);
        int from = text.indexOf("public final class ManyOut {");
        Set<String> wanted = new TreeSet<>();
        Matcher m = Pattern.compile("public ((?:static final )?\\w+ ?\\w*)(\\(.*\\)| = -?\\d+);")
            .matcher(text.substring(from, text.indexOf("```", from)));
        while (m.find()) {
            wanted.add(m.group(1) + m.group(2).replaceAll("(\\w+) \\w+(?=[,)])", "$1"));
        }
        Set<String> there = new TreeSet<>();
        for (Method method : ManyOut.class.getDeclaredMethods()) {
            if (!Modifier.isPrivate(method.getModifiers())) {
                there.add(method.getReturnType() + " " + method.getName() + "(" + typesOf(method.getParameterTypes()) + ")");
            }
        }
        for (Constructor<?> made : ManyOut.class.getDeclaredConstructors()) {
            there.add("ManyOut(" + typesOf(made.getParameterTypes()) + ")");
        }
        there.add("static final int NONE = " + ManyOut.NONE);
        there.add("static final int NOTHING = " + ManyOut.NOTHING);
        for (Field field : ManyOut.class.getDeclaredFields()) {
            boolean constant = field.getName().equals("NONE") || field.getName().equals("NOTHING");
            t.check.due("public " + field, Modifier.isPublic(field.getModifiers()), constant);
        }
        t.check.due("final", Modifier.isFinal(ManyOut.class.getModifiers()), true);
        t.check.due("all of the face", wanted.size(), 48);
        t.check.due("the face is " + there + ", the document's " + wanted, there.equals(wanted), true);
    }

    public static void main(String[] args) throws IOException {
        Sentences t = new Sentences(DOCUMENT);
        calls(t);
        if (Files.exists(DOCUMENT)) {
            face(t);
        }
        new HouseSentences(t).all();
        new RowSentences(t).all();
        new LedSentences(t).all();
        new CallSentences(t).all();
        new SumSentences(t).all();
        t.end();
    }
}
