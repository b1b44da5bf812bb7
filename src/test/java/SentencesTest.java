import java.io.IOException;
import java.nio.file.Files;
import java.nio.file.Path;
import java.util.LinkedHashSet;
import java.util.Set;

/** A test for each sentence of the document, told with its words, and that none of them is left out. */
public final class SentencesTest {
    private static final Path DOCUMENT = Path.of("../shared/DOC.md");

    /** The one sentence that asks for no answer. */
    private static final String ABOUT_THE_INTERFACE = "Ahead of the calls";

    public static void main(String[] args) throws IOException {
        Term1Edges.ask();
        Term2Edges.ask();
        Term3Edges.ask();
        RefusedEdges.ask();
        TownEdges.ask();
        RiderEdges.ask();
        PlanEdges.ask();
        noneIsLeftOut();
        Check.end("SentencesTest");
    }

    private static void noneIsLeftOut() throws IOException {
        if (!Files.exists(DOCUMENT)) {
            System.out.println("no " + DOCUMENT + " to compare the sentences with");
            return;
        }
        Check.endSentences();
        Set<String> tested = new LinkedHashSet<>(Check.sentences());
        for (String sentence : sentencesOf(Files.readString(DOCUMENT))) {
            Check.due("has it a test: " + sentence, tested.remove(sentence), true);
        }
        Check.due("tested, but not told by the document", tested.toString(), "[]");
    }

    /** Where each sentence of the terms and the promises stands, and its words. */
    private static Set<String> sentencesOf(String document) {
        Set<String> found = new LinkedHashSet<>();
        for (String section : document.split("(?m)^## ")) {
            String head = section.lines().findFirst().orElse("");
            if (head.equals("Terms") || head.startsWith("Promise ")) {
                for (String sentence : plainWords(section.substring(head.length())).split("(?<=[^.\\s]\\.) ")) {
                    found.add(head.replaceAll(":.*", "") + " | " + sentence);
                }
            }
        }
        found.removeIf(sentence -> sentence.contains(ABOUT_THE_INTERFACE));
        return found;
    }

    /** Without fences, the numbers of the terms, and the call that a promise begins with. */
    private static String plainWords(String section) {
        return section.replaceAll("```\\w*", "").replaceAll("(?m)^\\d\\. ", "").replaceAll("\\s+", " ").strip()
                .replaceAll("^`[^`]*`: ", "");
    }
}
