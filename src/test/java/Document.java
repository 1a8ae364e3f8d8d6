import java.io.IOException;
import java.nio.file.Files;
import java.nio.file.Path;
import java.util.ArrayList;
import java.util.List;

/** The sentences of ../shared/DOC.md, each with its section: a heading, or the name ahead of a paragraph. */
final class Document {
    record Sentence(String section, String text) {
        boolean holds(String inSection, String quote) {
            return section.equals(inSection) && text.contains(quote);
        }
    }

    private static final Path PLACE = Path.of("../shared/DOC.md");
    /** The description's paragraphs begin with their names, as "Best releases." */
    private static final String NAME = "[A-Z][a-z]+( [a-z]+)?\\.";

    private final List<Sentence> sentences = new ArrayList<>();
    private String section = "";

    static Document read() throws IOException {
        Document document = new Document();
        String text = Files.readString(PLACE).replaceAll("(?s)```.*?```", "");
        for (String block : text.split("\n\\s*\n")) {
            document.take(block.trim().replaceAll("\\s+", " "));
        }
        return document;
    }

    private void take(String block) {
        if (block.startsWith("#")) {
            section = block.replaceAll("^#+ ", "").replaceAll("(Promise \\d+):.*", "$1");
            return;
        }
        for (String sentence : block.split("(?<=\\.) | (?=- `)")) {
            if (sentence.matches(NAME) && !section.startsWith("Promise")) {
                section = sentence.substring(0, sentence.length() - 1);
            } else {
                sentences.add(new Sentence(section, sentence));
            }
        }
    }

    List<Sentence> sentences() {
        return sentences;
    }

    boolean says(String inSection, String quote) {
        return sentences.stream().anyMatch(sentence -> sentence.holds(inSection, quote));
    }

    /** The signatures ahead of the promises, without their quotes. */
    List<String> signatures() {
        return sentences.stream().map(Sentence::text).filter(text -> text.startsWith("`"))
                .map(text -> text.replace("`", "")).toList();
    }
}
