import java.io.IOException;
import java.nio.file.Files;
import java.nio.file.Path;

/**
 * ../shared/DOC.md, read from its first line to its last: each sentence is said in its turn, and the checks that
 * stand behind it are of that sentence. It fails if a sentence is left out, or said without a check behind it.
 */
abstract class Document extends Checks {
    private static final Path DOCUMENT = Path.of("../shared/DOC.md");

    private static String text;
    private static int at;
    private static String said = "";
    private static int checksAhead;

    /** The words of a text, with one space between them, and without the fences of its blocks. */
    private static String wordsOf(String text) {
        return text.replaceAll("(?m)^```\\w*$", " ").replaceAll("\\s+", " ").trim();
    }

    static void opens() throws IOException {
        text = wordsOf(Files.readString(DOCUMENT));
        at = 0;
    }

    /** A sentence of the document, the next one: the checks behind it are of that. */
    static void says(String sentence) {
        closesSentence();
        reads(sentence);
        said = sentence;
        checksAhead = checksMade();
    }

    /** Words of the document, the next ones, that ask for nothing which a call could answer. */
    static void tells(String words) {
        closesSentence();
        reads(words);
        said = "";
    }

    private static void closesSentence() {
        if (!said.isEmpty() && checksMade() == checksAhead) {
            is("checks of \"" + said + "\"", 0, "one at least");
        }
    }

    private static void reads(String words) {
        String next = wordsOf(words);
        if (at < text.length() && text.charAt(at) == ' ') {
            at++;
        }
        if (!text.startsWith(next, at)) {
            String there = text.substring(at, Math.min(text.length(), at + next.length()));
            throw new AssertionError("said is \"" + next + "\", the document says \"" + there + "\"");
        }
        at += next.length();
    }

    static void closes() {
        closesSentence();
        is("what the document says behind all that was said", text.substring(at), "");
    }

    /** Checks several answers at once: those of a question for what is 0, 1, 2, ... */
    static void are(String what, java.util.function.IntUnaryOperator question, int... due) {
        for (int i = 0; i < due.length; i++) {
            is(what + " " + i, question.applyAsInt(i), due[i]);
        }
    }

    /** Checks that a call is done, whatever it answers. */
    static void does(String what, Call call) {
        String answer = answer(call);
        is(what + ": " + answer, answer.startsWith("throws"), false);
    }
}
