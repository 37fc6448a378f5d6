import java.io.IOException;
import java.nio.file.Files;
import java.nio.file.Path;
import java.util.regex.Matcher;
import java.util.regex.Pattern;

/** What of ../shared/LANGUAGE.md can be seen by a look at the lines; it does not see all of it. */
public final class LanguageTest {
    private static final Check check = new Check();
    private static final Path PROGRAM = Path.of("src/main/java/DrillContest.java");

    public static void main(String[] args) throws IOException {
        String source = Files.readString(PROGRAM);
        for (char sign : source.toCharArray()) {
            if (sign != '\n' && (sign < 32 || sign > 126)) {
                check.same("a sign of the program", sign, ' ');
            }
        }
        String code = source.replaceAll("(?s)/\\*.*?\\*/", "").replaceAll("//[^\n]*", "");
        none(code, "->|::", "lambdas and method references");
        none(code, "\\b(try|catch|finally|synchronized|assert|instanceof|package|var|volatile)\\b", "words");
        none(code, "\\w+Exact\\(", "exact arithmetic");
        none(code, "\"\\s*\\+|\\+\\s*\"", "texts joined by +");
        none(code, "import (?!java\\.util\\.Arrays;)", "imports");
        none(code, "throw new (?!(IndexOutOfBounds|IllegalArgument|IllegalState)Exception\\()", "exceptions");
        none(code, "(?m)^ *(private |public )?static (?!final)[\\w\\[\\]]+ \\w+( =|;)", "static fields that can change");
        none(code, "System\\.(?!arraycopy)|Math\\.(?!(max|min|abs)\\()|Integer\\.(?!bitCount\\()|Arrays\\.(?!fill\\()", "library");
        methodsAreShort(code);
        check.close("LanguageTest");
    }

    private static void none(String code, String pattern, String what) {
        Matcher m = Pattern.compile(pattern).matcher(code);
        check.same(what, m.find() ? code.substring(m.start(), Math.min(code.length(), m.end() + 20)) : "", "");
    }

    private static void methodsAreShort(String code) {
        String[] lines = code.split("\n");
        for (int k = 0; k < lines.length; k++) {
            Matcher m = Pattern.compile("( {4}| {8})\\w.*\\) (throws .*)?\\{").matcher(lines[k]);
            if (m.matches()) {
                int end = k;
                while (!lines[end].equals(m.group(1) + "}")) {
                    end++;
                }
                check.same("lines of " + lines[k].trim() + " " + (end - k + 1), end - k < 60, true);
            }
        }
    }
}
