import java.io.IOException;
import java.nio.file.Files;
import java.nio.file.Path;
import java.util.ArrayList;
import java.util.HashSet;
import java.util.LinkedHashMap;
import java.util.List;
import java.util.Map;
import java.util.Set;

/** The sentences of ../shared/DOC.md by their sections, and which of them have been told to be tested or plain. */
final class Document {
    private final Map<String, List<String>> sections = new LinkedHashMap<>();
    private final Set<String> told = new HashSet<>();

    Document() throws IOException {
        List<String> here = new ArrayList<>();
        for (String line : Files.readAllLines(Path.of("../shared/DOC.md"))) {
            if (line.startsWith("## ")) {
                here = new ArrayList<>();
                sections.put(line.substring(3).replaceAll(":.*", ""), here);
            } else if (line.startsWith("- addGuild")) {
                here.add(line);
            } else if (!line.isBlank()) {
                here.addAll(List.of(line.trim().split("(?<=[.;]) +")));
            }
        }
        sections.keySet().removeIf(name -> !name.equals("Terms") && !name.startsWith("Promise "));
    }

    /** Tells that the one sentence of the section that holds the words has a test. */
    void tell(String section, String words) {
        int found = 0;
        for (String sentence : sections.getOrDefault(section, List.of())) {
            if (sentence.contains(words)) {
                told.add(section + ": " + sentence);
                found++;
            }
        }
        Check.due(section + " says once: " + words, found, 1);
    }

    /** Tells that a sentence, wherever it stands, names no boundary. */
    void tellPlain(String whole) {
        int found = 0;
        for (Map.Entry<String, List<String>> section : sections.entrySet()) {
            for (String sentence : section.getValue()) {
                if (sentence.equals(whole)) {
                    told.add(section.getKey() + ": " + sentence);
                    found++;
                }
            }
        }
        Check.due("the document says: " + whole, found > 0, true);
    }

    /** Tells that what a method does at all, told by its head, is tested elsewhere. */
    void tellHead(int promise) {
        String section = "Promise " + promise;
        int found = 0;
        for (String sentence : sections.getOrDefault(section, List.of())) {
            if (sentence.startsWith("`") && sentence.contains("(")) {
                told.add(section + ": " + sentence);
                found++;
            }
        }
        Check.due(section + " has a head", found, 1);
    }

    void finish() {
        int all = 0;
        for (Map.Entry<String, List<String>> section : sections.entrySet()) {
            for (String sentence : section.getValue()) {
                all++;
                String name = section.getKey() + ": " + sentence;
                Check.due("told, " + name, told.contains(name), true);
            }
        }
        Check.due("sentences are read", all > 200, true);
    }
}
