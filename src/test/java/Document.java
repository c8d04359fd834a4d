import java.io.IOException;
import java.nio.file.Files;
import java.nio.file.Path;
import java.util.ArrayList;
import java.util.LinkedHashMap;
import java.util.List;
import java.util.Map;
import java.util.regex.Matcher;
import java.util.regex.Pattern;

/** The document by its sections: the paragraphs of "Terms" and the promises. It keeps which of its words were tested. */
final class Document {
    private final Map<String, String> sections = new LinkedHashMap<>();
    private final Map<String, List<String>> said = new LinkedHashMap<>();
    private final Checks checks;

    Document(Path path, Checks checks) throws IOException {
        this.checks = checks;
        String text = Files.readString(path);
        String terms = text.substring(text.indexOf("## Terms"), text.indexOf("## Promise 1:"));
        Matcher paragraph = Pattern.compile("(?m)^([A-Z][a-z]*(?: [a-z]+)?)\\. (.*)$").matcher(terms);
        while (paragraph.find()) {
            sections.put(paragraph.group(1), paragraph.group(2));
        }
        Matcher promise = Pattern.compile("(?s)## (Promise \\d+): (.*?)(?=\\n## )").matcher(text);
        while (promise.find()) {
            sections.put(promise.group(1), promise.group(2));
        }
    }

    /** A run on a new yard, titled by words of the document, which must stand there. */
    Run says(String section, String words) {
        String title = section + ": " + words;
        checks.due("the document says: " + title, sections.getOrDefault(section, "").contains(words), true);
        said.computeIfAbsent(section, key -> new ArrayList<>()).add(words);
        return new Run(checks, title);
    }

    /** Each part of a sentence of "Terms", and each line of a promise that tells an answer or a bound, must have been tested. */
    void dueWhole() {
        checks.due("sections", sections.size(), 15 + 51);
        for (Map.Entry<String, String> section : sections.entrySet()) {
            boolean isPromise = section.getKey().startsWith("Promise");
            for (String part : section.getValue().split(isPromise ? "\\n" : "[.;:] |[.]$")) {
                if (!isPromise || isTelling(part)) {
                    checks.due("not tested of " + section.getKey(), wasSaid(section.getKey(), part) ? "" : part, "");
                }
            }
        }
    }

    private static boolean isTelling(String line) {
        return line.startsWith("Throws") || line.startsWith("Returns") || line.matches("- `.*\\d.*");
    }

    private boolean wasSaid(String section, String part) {
        for (String words : said.getOrDefault(section, List.of())) {
            if (words.contains(part) || part.contains(words)) {
                return true;
            }
        }
        return false;
    }
}
