import java.io.IOException;
import java.nio.file.Files;
import java.nio.file.Path;
import java.util.ArrayList;
import java.util.Arrays;
import java.util.List;

/**
 * Runs a test for each sentence of some parts of the document and of some promises. A sentence that is
 * not in the document, one without a test, and a test that looks at no answer are told as wrong.
 */
final class Sentences {
    private final Check check;
    private final String document;
    private final List<String> sentences = new ArrayList<>();
    private final List<String> untested = new ArrayList<>();

    Sentences(Check check) throws IOException {
        this.check = check;
        document = Files.readString(Path.of("../shared/DOC.md"));
    }

    /** Takes the sentences that stand between two lines of the document. */
    Sentences ofPart(String from, String to) {
        String text = between(document, from, to).strip().replaceAll("\\s+", " ");
        return of(Arrays.asList(text.split("(?<=\\.) ")));
    }

    /** Takes what the promises from the first number to the last one say that they make, answer or throw. */
    Sentences ofPromises(int first, int last) {
        for (int number = first; number <= last; number++) {
            of(promise(document, number));
        }
        return this;
    }

    private Sentences of(List<String> more) {
        sentences.addAll(more);
        untested.addAll(more);
        return this;
    }

    private static String between(String text, String from, String to) {
        int begin = text.indexOf("\n" + from + "\n");
        int end = text.indexOf("\n" + to, begin + 1);
        if (begin < 0 || end < 0) {
            throw new IllegalStateException("the document has no part from " + from + " to " + to);
        }
        return text.substring(begin + from.length() + 2, end);
    }

    /** The lines of a promise that tell what it makes, answers or throws, each behind the promise's number. */
    private static List<String> promise(String document, int number) {
        int begin = document.indexOf("\n## Promise " + number + ":");
        int end = document.indexOf("\n## ", begin + 1);
        List<String> lines = new ArrayList<>();
        for (String line : document.substring(begin, end).split("\n")) {
            if (line.matches("(Creates|Computes|Returns|Throws) .*")) {
                lines.add(number + ": " + line);
            }
        }
        return lines;
    }

    /** A sentence of a part. */
    void says(String sentence, Runnable test) {
        check.same("the document says \"" + sentence + "\"", sentences.contains(sentence), true);
        int before = check.answers();
        test.run();
        check.same("an answer is looked at for \"" + sentence + "\"", check.answers() > before, true);
        untested.remove(sentence);
    }

    /** A line of a promise. */
    void promises(int number, String line, Runnable test) {
        says(number + ": " + line, test);
    }

    /** A sentence of a part that names nothing that a call could answer. */
    void namesNoCase(String sentence) {
        check.same("the document says \"" + sentence + "\"", untested.remove(sentence), true);
    }

    void end() {
        for (String sentence : untested) {
            check.same("a test of \"" + sentence + "\"", "none", "one");
        }
        check.end();
    }
}
