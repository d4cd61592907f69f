import java.io.IOException;
import java.nio.file.Files;
import java.nio.file.Path;
import java.util.regex.Matcher;
import java.util.regex.Pattern;

/**
 * The document's sentences: each is told ahead of the answers that it asks for, must stand in the document, and must
 * have an answer of its own. What of the document no one told is found at the end.
 */
final class Sentences {
    final Check check = new Check();
    private final boolean hasDocument;
    private final String text;
    private final boolean[] told;
    private int from = 0;
    private String now = "";
    private boolean hasAnswer = true;

    /** Where the document is not at hand, the answers are asked for all the same. */
    Sentences(Path document) throws IOException {
        hasDocument = Files.exists(document);
        if (!hasDocument) {
            System.out.println("no " + document + ": what is quoted is not looked up");
        }
        text = hasDocument ? plain(Files.readString(document)) : "";
        told = new boolean[text.length()];
    }

    private static String plain(String any) {
        return any.replace("```text", " ").replace("```", " ").replaceAll("\\s+", " ");
    }

    /** Sentences are looked for from a place in the document on. */
    void from(String place) {
        from = text.indexOf(place);
        check.due("there is: " + place, from >= 0 || !hasDocument, true);
        from = Math.max(0, from);
    }

    void promise(int n, String name) {
        from("## Promise " + n + ": " + name);
    }

    void say(String sentence) {
        check.due("an answer for: " + now, hasAnswer, true);
        now = sentence;
        hasAnswer = false;
        int at = text.indexOf(plain(sentence), from);
        check.due("the document says: " + sentence, at >= 0 || !hasDocument, true);
        for (int k = Math.max(0, at); at >= 0 && k < at + plain(sentence).length(); k++) {
            told[k] = true;
        }
    }

    void due(String what, long got, long want) {
        hasAnswer = true;
        check.due("[" + now + "] " + what, got, want);
    }

    void due(String what, boolean got, boolean want) {
        due(what, got ? 1 : 0, want ? 1 : 0);
    }

    void same(String what, String got, String want) {
        due(got.equals(want) ? what : what + ": " + want + " became " + got, got.equals(want), true);
    }

    /** A house without a fault. */
    void good(String house, int statements) {
        ManyOut x = new ManyOut();
        due("house of " + house, Check.house(x, house), statements);
        due("fault of " + house, x.fault(0), 0);
        due("place of " + house, x.fault(1), ManyOut.NONE);
    }

    /** A house with a fault at the sign |, which is not in the text. */
    void fault(int fault, String marked) {
        int place = marked.indexOf('|');
        String house = marked.substring(0, place) + marked.substring(place + 1);
        ManyOut x = new ManyOut();
        due("house of " + house, Check.house(x, house), ManyOut.NONE);
        due("fault of " + house, x.fault(0), fault);
        due("place of " + house, x.fault(1), place);
        due("letters with " + house, x.has(0), 0);
    }

    /** What no call has to answer for. */
    private void tell(String pattern) {
        Matcher m = Pattern.compile(pattern).matcher(text);
        while (m.find()) {
            for (int k = m.start(); k < m.end(); k++) {
                told[k] = true;
            }
        }
    }

    void end() {
        check.due("an answer for: " + now, hasAnswer, true);
        tell("## Promise \\d+: \\w+( object| \\w+)* `[^`]*`:");
        tell("## Terms I\\. |(?<= )(II|III)\\. ");
        tell("Ahead of the calls .*? says: ---- [a-z, ]*\\.");
        int start = text.indexOf("## Terms");
        int end = text.indexOf("## Not promised");
        StringBuilder left = new StringBuilder();
        for (int k = start; k < end; k++) {
            left.append(told[k] ? '\n' : text.charAt(k));
        }
        for (String part : left.toString().split("\n+")) {
            if (part.matches(".*[A-Za-z0-9].*")) {
                check.due("no one told: " + part, 1, 0);
            }
        }
        check.end();
    }
}
