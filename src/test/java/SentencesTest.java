import java.io.IOException;
import java.nio.file.Files;
import java.nio.file.Path;
import java.util.ArrayList;
import java.util.Arrays;
import java.util.LinkedHashMap;
import java.util.List;
import java.util.Map;
import java.util.regex.Matcher;
import java.util.regex.Pattern;
import java.util.stream.Stream;

/**
 * That each sentence that a test names, by Doc.promise() or Doc.terms(), stands in that section of the document, and that
 * each sentence of the terms and of the promises is named by a test. It runs in the project's folder.
 */
public final class SentencesTest {
    private static final Path DOCUMENT = Path.of("../shared/DOC.md");
    private static final Path TESTS = Path.of("src/test/java");
    private static final Pattern NAMED = Pattern.compile("Doc\\.(?:promise\\((\\d+)|terms\\(\"([^\"]*)\"), \"((?:[^\"\\\\]|\\\\.)*)\"\\);");
    private static final Pattern HEADING = Pattern.compile("Ahead of the calls [^.]*\\.");
    private static final Pattern CALL = Pattern.compile("Doc\\.(promise|terms)\\(");

    public static void main(String[] args) throws IOException {
        Map<String, StringBuilder> sections = readSections();
        Due.isTrue("there are terms and 25 promises", sections.containsKey("Promise 25") && sections.containsKey("CONVENTIONS"));
        Map<String, boolean[]> named = new LinkedHashMap<>();
        sections.forEach((section, text) -> named.put(section, new boolean[text.length()]));
        for (Path test : tests()) {
            markNamed(test, sections, named);
        }
        sections.forEach((section, text) -> {
            if (!section.equals("What it is")) {
                allNamed(section, text.toString(), named.get(section));
            }
        });
        Due.end();
    }

    /** The text of each section, in which blanks and ends of lines are one blank each. */
    private static Map<String, StringBuilder> readSections() throws IOException {
        Map<String, StringBuilder> sections = new LinkedHashMap<>();
        String section = "";
        for (String line : Files.readAllLines(DOCUMENT)) {
            if (line.startsWith("## Promise ")) {
                section = line.substring(3, line.indexOf(':'));
            } else if (line.startsWith("#") || line.equals("Rows, hours")) {
                section = line.replaceFirst("^#+ ", "");
            } else if (line.startsWith("CONVENTIONS.")) {
                section = "CONVENTIONS";
                add(sections, section, line.substring("CONVENTIONS.".length()));
            } else if (hasSentences(section) && !line.startsWith("```")) {
                add(sections, section, withoutSignature(section, line));
            }
        }
        return sections;
    }

    private static boolean hasSentences(String section) {
        return !section.equals("ShadowRows") && !section.equals("The public face") && !section.equals("Not promised");
    }

    /** A promise begins with its method, which FaceTest looks at. */
    private static String withoutSignature(String section, String line) {
        return section.startsWith("Promise ") ? line.replaceFirst("^`[^`]*\\)`: ", "") : line;
    }

    private static void add(Map<String, StringBuilder> sections, String section, String line) {
        StringBuilder text = sections.computeIfAbsent(section, name -> new StringBuilder());
        text.append(line.trim().replaceAll("\\s+", " ")).append(' ');
    }

    private static List<Path> tests() throws IOException {
        List<Path> tests = new ArrayList<>();
        try (Stream<Path> all = Files.list(TESTS)) {
            all.filter(file -> file.toString().endsWith("BoundaryTest.java")).sorted().forEach(tests::add);
        }
        return tests;
    }

    private static void markNamed(Path test, Map<String, StringBuilder> sections, Map<String, boolean[]> named) throws IOException {
        String source = Files.readString(test);
        Matcher matcher = NAMED.matcher(source);
        int found = 0;
        while (matcher.find()) {
            found++;
            String section = matcher.group(1) == null ? matcher.group(2) : "Promise " + matcher.group(1);
            String sentence = matcher.group(3).replace("\\\"", "\"").replace("\\\\", "\\");
            int at = sections.containsKey(section) ? sections.get(section).indexOf(sentence) : -1;
            Due.isTrue(test.getFileName() + " names what stands in the document: " + section + ", \"" + sentence + "\"", at >= 0);
            for (int i = at; at >= 0 && i < at + sentence.length(); i++) {
                named.get(section)[i] = true;
            }
        }
        Due.is("the sentences that can be read in " + test.getFileName(), found, CALL.matcher(source).results().count());
        Due.isTrue(test.getFileName() + " names sentences", found > 0);
    }

    /** Only signs between what is named may be left, and the headings that the interface has ahead of some calls. */
    private static void allNamed(String section, String text, boolean[] named) {
        StringBuilder left = new StringBuilder();
        Matcher heading = HEADING.matcher(text);
        while (heading.find()) {
            Arrays.fill(named, heading.start(), heading.end(), true);
        }
        for (int i = 0; i < text.length(); i++) {
            left.append(named[i] ? '|' : text.charAt(i));
        }
        for (String part : left.toString().split("\\|+")) {
            Due.isTrue("a test names, of " + section + ": \"" + part + "\"", !part.matches(".*[A-Za-z0-9].*"));
        }
    }
}
