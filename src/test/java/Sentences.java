import java.io.IOException;
import java.nio.file.Files;
import java.nio.file.Path;
import java.util.ArrayList;
import java.util.LinkedHashMap;
import java.util.List;
import java.util.Map;
import java.util.Set;

/**
 * The sentences of ../shared/DOC.md, for tests that each stand for one of them. No test can be for a sentence that
 * the document doesn't have, and at the end each sentence of the sections asked for must have had its test.
 */
final class Sentences {
    private static final Path DOCUMENT = Path.of("../shared/DOC.md");
    /** Headings, and what no answer of a call can break (FaceTest looks at the types). */
    private static final Set<String> WITHOUT_TEST = Set.of("Words", "Speakers", "Chance", "Meetings", "Years",
        "Agreement", "Text", "Undo", "Error codes", "All values are integers", "what later calls answer is free");
    private static final List<String> BEGINNINGS_WITHOUT_TEST =
        List.of("Ahead of the calls", "A pidgin of winks and nods");

    private final Map<String, String> sections = new LinkedHashMap<>();
    private final Map<String, List<String>> quotes = new LinkedHashMap<>();
    private final List<Due> dues = new ArrayList<>();
    private int faults = 0;

    /** For the sections whose headings begin with these names, as "Terms" or "Promise 2". */
    Sentences(String... names) {
        for (String section : readDocument().split("\n## ")) {
            String name = section.split("[:\n]", 2)[0];
            if (List.of(names).contains(name)) {
                sections.put(name, section.substring(section.indexOf('\n') + 1));
                quotes.put(name, new ArrayList<>());
            }
        }
        if (sections.size() != names.length) {
            fault("the document has only the sections " + sections.keySet());
        }
    }

    private static String readDocument() {
        try {
            return Files.readString(DOCUMENT);
        } catch (IOException e) {
            throw new IllegalStateException("run the tests from the project's folder, beside ../shared", e);
        }
    }

    Due promise(int number, String... sentences) {
        return of("Promise " + number, "", sentences);
    }

    /** The promises are those that use these words. */
    Due terms(String promises, String... sentences) {
        return of("Terms", " for promises " + promises, sentences);
    }

    /** Where a test writes what isn't as these sentences, or parts of sentences, of a section say. */
    Due of(String section, String use, String... sentences) {
        for (String sentence : sentences) {
            if (!sections.getOrDefault(section, "").contains(sentence)) {
                fault("not in the document: " + section + ", \"" + sentence + "\"");
            }
            quotes.getOrDefault(section, new ArrayList<>()).add(sentence);
        }
        Due due = new Due(section + use + ", \"" + String.join("\", \"", sentences) + "\": ");
        dues.add(due);
        return due;
    }

    private void fault(String text) {
        faults++;
        System.out.println(text);
    }

    void end() {
        sections.forEach(this::lookForSentencesWithoutTest);
        int asked = 0;
        int wrong = faults;
        for (Due due : dues) {
            asked += due.asked();
            wrong += due.wrong() + (due.asked() == 0 ? 1 : 0);
        }
        System.out.println(dues.size() + " tests of sentences, " + asked + " answers, " + wrong + " not as due");
        if (wrong != 0) {
            System.exit(1);
        }
    }

    private void lookForSentencesWithoutTest(String name, String text) {
        for (String line : text.split("\n")) {
            for (String part : line.replaceFirst("^`[^`]*`: ", "").split("\\. |; |\\.$")) {
                String sentence = part.strip();
                if (!needsNoTest(sentence) && !isQuoted(name, sentence)) {
                    fault("without a test: " + name + ", \"" + sentence + "\"");
                }
            }
        }
    }

    private static boolean needsNoTest(String sentence) {
        return sentence.isEmpty() || WITHOUT_TEST.contains(sentence)
            || BEGINNINGS_WITHOUT_TEST.stream().anyMatch(sentence::startsWith);
    }

    private boolean isQuoted(String name, String sentence) {
        return quotes.get(name).stream().anyMatch(quote -> quote.contains(sentence) || sentence.contains(quote));
    }
}
