import java.io.IOException;
import java.nio.file.Files;
import java.nio.file.Path;
import java.util.ArrayList;
import java.util.List;

/**
 * The sentences of the document's terms and promises. Each test of an edge names the one that it
 * holds in the document's own words; one that no test names is a fault.
 */
final class Sentences {
    /** The promise under which the sentences of the document's terms are kept. */
    static final int TERMS = 0;

    private static final Path DOCUMENT = Path.of("../shared/DOC.md");

    private static final class Sentence {
        final int promise;
        final String text;
        boolean held;

        Sentence(int promise, String text) {
            this.promise = promise;
            this.text = text;
        }
    }

    private final List<Sentence> all = new ArrayList<>();

    Sentences() throws IOException {
        int promise = -1;
        for (String line : Files.readAllLines(DOCUMENT)) {
            if (line.startsWith("## ")) {
                promise = promiseOf(line);
            } else if (promise >= 0 && !line.isBlank()) {
                add(promise, line);
            }
        }
    }

    /** Returns the number of the promise that a heading opens, or -1 for a part that promises nothing. */
    private static int promiseOf(String heading) {
        if (heading.equals("## Terms")) {
            return TERMS;
        }
        return heading.startsWith("## Promise ") ? Integer.parseInt(heading.replaceAll("\\D", "")) : -1;
    }

    private void add(int promise, String line) {
        // What the interface says ahead of some calls names no answer.
        if (line.startsWith("Ahead of the calls")) {
            return;
        }
        if (promise != TERMS) {
            all.add(new Sentence(promise, line));
            return;
        }
        // A paragraph of the terms opens with a title like "Packets."
        String paragraph = line.replaceFirst("^[A-Z][a-z ]{1,20}\\. ", "");
        for (String text : paragraph.split("(?<=[.;]) ")) {
            all.add(new Sentence(promise, text));
        }
    }

    /** Runs a test of a sentence, which is told by a part of it. */
    void hold(int promise, String part, Runnable test) {
        boolean found = false;
        for (Sentence sentence : all) {
            if (sentence.promise == promise && sentence.text.contains(part)) {
                sentence.held = true;
                found = true;
            }
        }
        Checks.about(promise + ", '" + part + "'");
        if (!found) {
            Checks.complain("the document doesn't say so");
        }
        try {
            test.run();
        } catch (RuntimeException e) {
            Checks.complain("the test threw " + e);
        }
    }

    /** Complains of each sentence that no test has held. */
    void complainOfRest() {
        for (Sentence sentence : all) {
            if (!sentence.held) {
                Checks.about(String.valueOf(sentence.promise));
                Checks.complain("no test of '" + sentence.text + "'");
            }
        }
    }
}
