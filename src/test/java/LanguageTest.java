import java.io.IOException;
import java.nio.file.Files;
import java.nio.file.Path;
import java.util.regex.Matcher;
import java.util.regex.Pattern;

/** The rules of LANGUAGE.md that can be seen from the program's text. */
public final class LanguageTest {
    private static final String[] NEVER = {
        // Rule 6, 13, 1, and 4: what is not in the library that it lists.
        "throw", "throws", "try", "catch", "synchronized", "assert", "volatile", "native", "protected", "package",
        "System\\.(?!arraycopy)", "\\w+Exact\\b", "Random", "Thread", "hashCode", "Object", "HashMap", "HashSet", "Map", "Set",
        "import (?!java\\.util\\.(?:ArrayList|List|Arrays|Iterator);)",
        // Rule 2: no lambda, no method reference, no anonymous class.
        "[^:]::[^:]", "\\) *->", "= *\\w+ *->", "new [A-Z]\\w*\\([^;]*\\) *\\{",
        // Rule 5: no other static state.
        "static \\{", "static (?!final|class|abstract)[\\w\\[\\]<>]+ \\w+ *[=;]"
    };
    private static final Pattern PUBLIC = Pattern.compile("public (?:int|long) (\\w+)\\(");
    private static final Pattern PRIVATE = Pattern.compile("private (?:static )?(?:\\w+(?:\\[\\])?) (\\w+)\\(");

    public static void main(String[] args) throws IOException {
        String text = Files.readString(Path.of("src/main/java/BearWitness.java"));
        String code = text.replaceAll("(?s)/\\*.*?\\*/", "").replaceAll("//[^\n]*", "");
        for (String never : NEVER) {
            String word = never.matches("\\w+") ? "\\b" + never + "\\b" : never;
            Due.is("LANGUAGE: " + never, Pattern.compile(word).matcher(code).find() ? 1 : 0, 0);
        }
        for (char sign : text.toCharArray()) {
            if (sign > 126) Due.is("a sign above 126", sign, 0);
        }
        names(code);
        methods(code);
        Due.end("LanguageTest");
    }

    /** Rule 1: no private method bears a public one's name. */
    private static void names(String code) {
        StringBuilder faces = new StringBuilder(" ");
        Matcher face = PUBLIC.matcher(code);
        while (face.find()) faces.append(face.group(1)).append(' ');
        Due.is("public calls", faces.toString().trim().split(" ").length, 42);
        Matcher own = PRIVATE.matcher(code);
        while (own.find()) {
            Due.is("1 private " + own.group(1), faces.indexOf(" " + own.group(1) + " ") < 0 ? 0 : 1, 0);
        }
    }

    /** Rule 11: methods of some sixty lines, some twelve classes. */
    private static void methods(String code) {
        int length = 0;
        int classes = 0;
        for (String line : code.split("\n")) {
            if (line.contains(" class ")) classes++;
            if (line.matches(" {4}(public|private).*\\) \\{| {8}private.*\\) \\{")) length = 0;
            length++;
            if (line.matches(" {4}\\}| {8}\\}")) {
                if (length > 60) Due.is("11 lines of a method", length, 60);
                length = 0;
            }
        }
        Due.is("11 classes", classes <= 12 ? 0 : classes, 0);
    }
}
