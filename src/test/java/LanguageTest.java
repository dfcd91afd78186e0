import java.io.IOException;
import java.nio.file.Files;
import java.nio.file.Path;
import java.util.regex.Matcher;
import java.util.regex.Pattern;

/** The rules of LANGUAGE.md that can be seen in the source without reading it as a compiler does. */
public final class LanguageTest {
    private static final String[] NEVER = {
        "\\b(throw|throws|try|catch|finally|synchronized|assert|native|volatile|transient)\\b",
        "->", "::", "\\bnew\\s+\\w+(<[^>]*>)?\\([^)]*\\)\\s*\\{", "\\bstatic\\s*\\{",
        "\\bprotected\\b", "^package\\b", "\\b(System\\.(?!arraycopy\\b))", "\\bExact\\b",
        "\\w+Exact\\b", "\\b(hashCode|toString)\\b", "\\bThread\\b", "\\bRandom\\b",
        "\\bArrays\\.(?!copyOf\\b|copyOfRange\\b|fill\\b)", "\\bwhile\\s*\\(\\s*true", "for\\s*\\(\\s*;",
        "^import\\s+(?!java\\.util\\.(Arrays|ArrayList|List|Iterator);)",
        "\\[\\]\\s*\\[\\]\\s*\\[\\]", "\\b(Object|Map|Set|Optional|Stream)\\b",
    };

    private LanguageTest() {
    }

    public static void main(String[] args) throws IOException {
        Check check = new Check("LanguageTest");
        String source = withoutComments(Files.readString(Path.of("src/main/java/TwoScales.java")));
        for (String never : NEVER) {
            Matcher m = Pattern.compile(never, Pattern.MULTILINE).matcher(source);
            check.holds("nothing like " + never, !m.find());
        }
        check.holds("signs 1 to 127 alone", source.chars().allMatch(c -> c > 0 && c < 128));
        check.holds("some twelve classes at most", found("\\b(class|record|enum|interface)\\s+[A-Z]", source) <= 12);
        check.holds("static fields are final",
                found("\\bstatic\\s+(?!final\\b)[\\w\\[\\]]+\\s+\\w+\\s*(=|;)", source) == 0);
        checkMethods(check, source);
        check.end();
    }

    private static String withoutComments(String source) {
        return source.replaceAll("(?s)/\\*.*?\\*/", "").replaceAll("//[^\n]*", "");
    }

    private static int found(String what, String source) {
        int n = 0;
        Matcher m = Pattern.compile(what).matcher(source);
        while (m.find()) {
            n++;
        }
        return n;
    }

    /** Methods stay short and take seven arguments at most. */
    private static void checkMethods(Check check, String source) {
        Matcher m = Pattern.compile("(?m)^( {4}| {8})(?:[a-z]+ )*[\\w\\[\\]]+ (\\w+)\\(([^)]*)\\) \\{$").matcher(source);
        int methods = 0;
        while (m.find()) {
            methods++;
            int end = source.indexOf("\n" + m.group(1) + "}\n", m.end());
            check.holds(m.group(2) + " ends", end > 0);
            String body = source.substring(m.end(), Math.max(end, m.end()));
            check.holds(m.group(2) + " is short", body.split("\n").length <= 40);
            check.holds(m.group(2) + " takes few", m.group(3).split(",").length <= 7);
        }
        check.holds("methods were found: " + methods, methods > 60);
    }
}
