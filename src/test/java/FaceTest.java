import java.io.IOException;
import java.lang.reflect.Constructor;
import java.lang.reflect.Member;
import java.lang.reflect.Method;
import java.lang.reflect.Modifier;
import java.nio.file.Files;
import java.nio.file.Path;
import java.util.Arrays;
import java.util.Set;
import java.util.TreeSet;
import java.util.regex.Matcher;
import java.util.regex.Pattern;
import java.util.stream.Collectors;

/** The class has the document's face and no other member that can be seen (LANGUAGE.md, rule 1). */
public final class FaceTest {
    private static final String[] FACE = {
        "int type(int)", "int rub(int)", "int wipe()", "int take(int,int,int)", "int mode(int,int,boolean,boolean)",
        "int begin()", "int feed(int,int)", "int finish(int)", "int read(int)", "int write(int,boolean)", "int fix(int)",
        "int readFixed(int,int)", "int insert(int,int,int)", "int put(int,int,int)", "int drop(int,int)", "int move(int,int,int)",
        "int dropColumn(int,int)", "int copy(int)", "int stack(int)", "int part(int,int)", "int turn(int)",
        "int sort(int,int,int,boolean,int)", "int filter(int,int)", "int group(int,int,int)", "int join(int,int,int)",
        "int heads(int)", "int sample(int,int,int)", "int undo()", "String text()", "int rows(int)", "int fields(int,int)",
        "String cell(int,int,int)", "boolean isEven(int)", "int headed(int)", "int find(int,int,int)", "int typeOf(int,int,int)",
        "int wrong(int,int,int)", "long total(int,int)", "int written(int,boolean)", "String page(int,int,int)",
        "String differences(int)", "int guess()", "int filterFault()", "boolean passes(int,int)", "int fault(int,int)",
        "int desk(int)", "boolean isSound()", "int knock()", "long digest()"};
    private static int wrong;

    private static void hold(boolean isSo, String what) {
        if (!isSo) {
            wrong++;
            System.out.println("does not hold: " + what);
        }
    }

    private static String told(Method method) {
        return method.getReturnType().getSimpleName() + " " + method.getName() + Arrays.stream(method.getParameterTypes())
            .map(Class::getSimpleName).collect(Collectors.joining(",", "(", ")"));
    }

    private static boolean isSeen(Member member) {
        return !Modifier.isPrivate(member.getModifiers()) && !member.isSynthetic();
    }

    public static void main(String[] args) throws IOException {
        Class<?> face = Commadesk.class;
        hold(Modifier.isPublic(face.getModifiers()) && Modifier.isFinal(face.getModifiers()), "public and final");
        Set<String> seen = new TreeSet<>();
        for (Method method : face.getDeclaredMethods()) {
            if (!isSeen(method)) continue;
            seen.add(told(method));
            hold(Modifier.isPublic(method.getModifiers()) && !Modifier.isStatic(method.getModifiers()), told(method) + " is public");
        }
        hold(seen.equals(new TreeSet<>(Arrays.asList(FACE))), "the face is the document's, not " + seen);
        for (Constructor<?> made : face.getDeclaredConstructors()) {
            hold(Modifier.isPublic(made.getModifiers()) && made.getParameterCount() == 0, "one constructor");
        }
        checkWords();
        if (wrong != 0) System.exit(1);
        System.out.println("the face is as due");
    }

    /** The document's face stands in the source word by word, with what each method throws and how its arguments are named. */
    private static void checkWords() throws IOException {
        Path root = Path.of(System.getProperty("project.root", ".")), document = root.resolve("../shared/DOC.md");
        if (!Files.isReadable(document)) {
            System.out.println("the document is not there, so the face is not compared with its words");
            return;
        }
        String source = Files.readString(root.resolve("src/main/java/Commadesk.java")).replaceAll("\\s+", " ");
        String words = Files.readString(document);
        int many = 0;
        Matcher line = Pattern.compile("(?m)^    public [^;]*\\)[^;]*;$").matcher(words);
        while (line.find()) {
            many++;
            String told = line.group().trim().replace(";", "");
            hold(source.contains(told + " {"), "the source says: " + told);
            hold(told.equals("public Commadesk()") || words.contains("`" + told.substring("public ".length()) + "`"), "a promise says: " + told);
        }
        hold(many == FACE.length + 1, "the document tells " + (FACE.length + 1) + " constructors and methods, not " + many);
    }
}
