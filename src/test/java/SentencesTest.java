import java.lang.reflect.Method;
import java.nio.file.Files;
import java.nio.file.Path;
import java.util.ArrayList;
import java.util.LinkedHashMap;
import java.util.List;
import java.util.Map;
import java.util.regex.Matcher;
import java.util.regex.Pattern;

/**
 * The tests of boundary cases quote the document: each quotation stands there, in the part or promise that it names,
 * and each "Throws" row of the document has a test of its own. With the argument "left" it tells what no test quotes.
 */
public final class SentencesTest {
    private static final Class<?>[] TESTS = {TextEdgesTest.class, ReadingEdgesTest.class, WritingEdgesTest.class,
        TableEdgesTest.class, AskingEdgesTest.class};
    private static int wrong;

    private static void fail(String what) {
        wrong++;
        System.out.println(what);
    }

    /** The document's words by the headings under which they stand, each stretch of blanks as one. */
    private static Map<String, String> sections(String document) {
        Map<String, String> sections = new LinkedHashMap<>();
        String at = "head";
        for (String line : document.split("\n")) {
            Matcher part = Pattern.compile("== ([1-5])\\. .*").matcher(line);
            Matcher promise = Pattern.compile("## Promise ([0-9]+): .*").matcher(line);
            if (part.matches()) at = "part " + part.group(1);
            else if (promise.matches()) at = "promise " + promise.group(1);
            else if (line.startsWith("## ")) at = line.substring(3);
            else sections.merge(at, line, (all, more) -> (all + " " + more).replaceAll("\\s+", " "));
        }
        return sections;
    }

    private static List<String> throwsRows(String section) {
        List<String> rows = new ArrayList<>();
        Matcher row = Pattern.compile("Throws `\\w+` if .*?(?= Throws `| Returns |$)").matcher(section.trim());
        while (row.find()) rows.add(row.group().trim());
        return rows;
    }

    public static void main(String[] args) throws Exception {
        Path document = Path.of(System.getProperty("project.root", "."), "../shared/DOC.md");
        if (!Files.isReadable(document)) {
            System.out.println("the document is not there, so nothing is compared with it");
            return;
        }
        Map<String, String> sections = sections(Files.readString(document));
        Map<String, List<String>> quoted = new LinkedHashMap<>();
        for (Class<?> tests : TESTS) {
            for (Method test : tests.getDeclaredMethods()) {
                Trial.Says says = test.getAnnotation(Trial.Says.class);
                if (says == null) continue;
                for (String words : says.it()) {
                    if (!sections.getOrDefault(says.at(), "").contains(words)) fail(says.at() + " does not say: " + words);
                    quoted.computeIfAbsent(says.at(), at -> new ArrayList<>()).add(words);
                }
            }
        }
        int rows = 0;
        for (Map.Entry<String, String> section : sections.entrySet()) {
            List<String> words = quoted.getOrDefault(section.getKey(), List.of());
            for (String row : throwsRows(section.getValue())) {
                rows++;
                if (!words.contains(row)) fail(section.getKey() + ": no test of its own for: " + row);
            }
            if (section.getKey().startsWith("p") && words.isEmpty()) fail(section.getKey() + ": no boundary case is tested");
            if (args.length > 0 && args[0].equals("left")) {
                String left = section.getValue();
                for (String said : words) left = left.replace(said, " _ ");
                System.out.println(section.getKey() + ": " + left);
            }
        }
        if (rows == 0) fail("no row of the document was found");
        System.out.println(rows + " rows tell an exception, " + wrong + " faults");
        if (wrong != 0) System.exit(1);
    }
}
