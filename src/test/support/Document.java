import java.io.IOException;
import java.nio.file.Files;
import java.nio.file.Path;
import java.nio.file.Paths;
import java.util.ArrayList;
import java.util.LinkedHashMap;
import java.util.List;
import java.util.Map;
import java.util.regex.Matcher;
import java.util.regex.Pattern;

/** The document, cut into its sections: are all of its words told by sentences that have a test? */
final class Document {
    private static final Path FILE = Paths.get("../shared/DOC.md");
    private static final Pattern HEADED = Pattern.compile("^#+ ([^\\n]*)\\n(.*?)(?=^#|\\z)", Pattern.DOTALL | Pattern.MULTILINE);
    private static final Pattern CALL = Pattern.compile("(?:public )?((?:int|void|boolean) )?(\\w+)\\(([^)]*)\\)( throws [\\w, ]+)?");

    private final Map<String, String> headed = new LinkedHashMap<>();
    private final Map<String, StringBuilder> sections = new LinkedHashMap<>();

    private Document(String text) {
        Matcher parts = HEADED.matcher(text);
        while (parts.find()) {
            headed.put(parts.group(1), parts.group(2));
        }
        headed.forEach((heading, body) -> {
            if (heading.equals("Terms")) {
                addTerms(body);
            } else if (heading.startsWith("Promise ")) {
                add(heading.substring(0, heading.indexOf(':')), body.replaceFirst("`[^`]*`:", ""));
            } else if (!heading.equals("The public face")) {
                add(heading, body);
            }
        });
    }

    static Document read() throws IOException {
        return new Document(Files.readString(FILE));
    }

    /** What stands ahead of the numbered parts, these, and the constants. */
    private void addTerms(String body) {
        int constants = body.indexOf("The constants:");
        add("The constants", body.substring(constants));
        for (String part : body.substring(0, constants).split("==== ")) {
            if (part.matches("(?s)\\d\\..*")) {
                add(part.substring(0, 1), part.substring(2));
            } else {
                add("Terms", part);
            }
        }
    }

    private void add(String name, String text) {
        sections.put(name, new StringBuilder(text.replaceAll("```(text)?", " ").replaceAll("\\s+", " ")));
    }

    /** The calls of "The public face", told as "int told(int,boolean,int) throws NoSuchElementException". */
    List<String> face() {
        List<String> calls = new ArrayList<>();
        for (String line : headed.getOrDefault("The public face", "").split("\n")) {
            if (line.matches("    public .*\\);|    public .*\\) throws .*;") && !line.contains(" NestQuery(")) {
                calls.add(call(line));
            }
        }
        return calls;
    }

    /** The calls that the promises' bodies begin with, told likewise; that of promise 1 is the constructor. */
    List<String> promised() {
        List<String> calls = new ArrayList<>();
        headed.forEach((heading, body) -> {
            if (heading.startsWith("Promise ")) {
                calls.add(call(body));
            }
        });
        return calls;
    }

    private static String call(String line) {
        Matcher found = CALL.matcher(line);
        if (!found.find()) {
            return "no call: " + line;
        }
        String with = found.group(3).replaceAll(" \\w+(?=,|$)", "").replace(", ", ",");
        return (found.group(1) == null ? "" : found.group(1)) + found.group(2) + "(" + with + ")"
                + (found.group(4) == null ? "" : found.group(4).replace(", ", ","));
    }

    /** Strikes out all that the sentences tell; what is left over has no test. */
    static void check() throws IOException {
        Document document = read();
        Probe.due("headings", document.headed.size(), 4 + 29 + 1);
        Probe.due("sections", document.sections.size(), 3 + 29 + 5);
        for (Sentence sentence : Sentence.all()) {
            StringBuilder section = document.sections.get(sentence.section);
            int at = section == null ? -1 : section.indexOf(sentence.quote);
            Probe.due("in the document: " + sentence.quote, at >= 0, true);
            Probe.due("something is asked of: " + sentence.quote, sentence.isTested(), true);
            if (at >= 0) {
                section.replace(at, at + sentence.quote.length(), "");
            }
        }
        document.sections.forEach((name, rest) -> Probe.due("not tested of " + name, rest.toString().trim(), ""));
    }
}
