import java.io.IOException;
import java.nio.file.Files;
import java.nio.file.Path;
import java.nio.file.Paths;
import java.util.LinkedHashMap;
import java.util.Map;
import java.util.regex.Matcher;
import java.util.regex.Pattern;

/** The document, cut into its sections: are all of its words told by sentences that have a test? */
final class Document {
    private static final Path FILE = Paths.get("../shared/DOC.md");

    private final Map<String, StringBuilder> sections = new LinkedHashMap<>();

    private Document(String text) {
        String terms = text.substring(text.indexOf("==== 1."), text.indexOf("The constants:"));
        for (String part : terms.split("==== ")) {
            if (!part.isEmpty()) {
                add(part.substring(0, part.indexOf('.')), part.substring(part.indexOf('.') + 1));
            }
        }
        Matcher promises = Pattern.compile("## (Promise \\d+): [^\\n]*\\n(.*?)(?=\\n## )", Pattern.DOTALL).matcher(text);
        while (promises.find()) {
            add(promises.group(1), promises.group(2).replaceFirst("`[^`]*`:", ""));
        }
    }

    private void add(String name, String text) {
        sections.put(name, new StringBuilder(text.replaceAll("```(text)?", " ").replaceAll("\\s+", " ")));
    }

    /** Strikes out all that the sentences tell; what is left over has no test. */
    static void check() throws IOException {
        Document document = new Document(Files.readString(FILE));
        Probe.due("sections", document.sections.size(), 3 + 29);
        for (Sentence sentence : Sentence.all()) {
            StringBuilder section = document.sections.get(sentence.section);
            int at = section == null ? -1 : section.indexOf(sentence.quote);
            Probe.due("in the document: " + sentence.quote, at >= 0, true);
            Probe.due("something is asked of: " + sentence.quote, sentence.isTested(), true);
            if (at >= 0) {
                section.replace(at, at + sentence.quote.length(), "");
            }
        }
        document.sections.forEach((name, rest) -> Probe.due("not tested of " + name, rest.toString().trim(), ""));
    }
}
