import java.nio.file.Files;
import java.nio.file.Path;
import java.util.regex.Matcher;
import java.util.regex.Pattern;

/** The words and the lengths of methods that LANGUAGE.md rules out of the program's source, as far as a text shows them. */
public final class LanguageTest {
    private static final String[] BARRED = {
        "\\bimport\\b", "\\bpackage\\b", "->", "::", "\\btry\\b", "\\bcatch\\b", "\\bfinally\\b", "\\bsynchronized\\b", "\\bassert\\b",
        "\\bwhile\\s*\\(\\s*true", "for\\s*\\(\\s*;\\s*;", "\"\\s*\\+", "\\+\\s*\"", "\\bSystem\\b", "\\bArrays\\b", "\\bObject\\b", "\\bvar\\b",
        "\\bNaN\\b", "Exact\\b", "\\.(hashCode|toLowerCase|split|format|matches|compareTo|contains|trim|repeat|insert|replace)\\(",
        "String\\[\\]", "\\bpublic\\b[^\\n;]*\\bstatic\\b", "\\bprotected\\b", "@", "\\b(MAX|MIN)_VALUE\\b", "[^\\x00-\\x7f]", "static\\s*\\{"};

    public static void main(String[] args) throws Exception {
        String root = System.getProperty("project.root", ".");
        String source = Files.readString(Path.of(root, "src/main/java/Commadesk.java"));
        String code = source.replaceAll("(?s)/\\*.*?\\*/", "").replaceAll("(?m)//.*$", "");
        int wrong = 0;
        for (String barred : BARRED) {
            Matcher found = Pattern.compile(barred).matcher(code);
            if (found.find()) {
                wrong++;
                System.out.println("barred: " + barred + ", found: " + found.group());
            }
        }
        int begin = -1;
        String[] lines = source.split("\n", -1);
        for (int i = 0; i < lines.length; i++) {
            if (lines[i].matches("( {4}| {8})[a-zA-Z].*\\).*\\{") && !lines[i].contains("class ")) begin = i;
            if (begin >= 0 && lines[i].matches("( {4}| {8})\\}") && i - begin > 60) {
                wrong++;
                System.out.println("too long: the method at line " + (begin + 1));
            }
            if (lines[i].length() > 120) {
                wrong++;
                System.out.println("too wide: line " + (i + 1));
            }
        }
        if (wrong != 0) System.exit(1);
        System.out.println("the source keeps to the language, as far as its text shows");
    }
}
