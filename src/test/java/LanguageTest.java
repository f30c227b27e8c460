import java.io.IOException;
import java.nio.file.Files;
import java.nio.file.Path;
import java.util.regex.Matcher;
import java.util.regex.Pattern;

/** What of LANGUAGE.md can be seen from the source's words. */
public final class LanguageTest {
    private static final Path SOURCE = Path.of("src/main/java/FixedKinds.java");
    private static final int LONGEST_METHOD = 60;
    private static final String[] FORBIDDEN = {
        "\\bpackage\\b", "\\bimport\\b", "\\btry\\b", "\\bcatch\\b", "\\bfinally\\b", "\\bassert\\b",
        "\\bsynchronized\\b", "\\bvar\\b", "->", "::", "\\w+Exact\\b", "\\bBig(Integer|Decimal)\\b",
        "\\bSystem\\b", "\\bThread\\b", "\\bRandom\\b", "\\bprotected\\b", "\\bhashCode\\b", "\\btoString\\b",
        "\\bstatic\\s*\\{", "\\bjava\\.",
    };
    private static int wrong = 0;

    private static void fault(String what) {
        wrong++;
        System.out.println(what);
    }

    private static String withoutWords(String source) {
        return source.replaceAll("(?s)/\\*.*?\\*/", "").replaceAll("//[^\n]*", "").replaceAll("\"[^\"\n]*\"", "\"\"");
    }

    private static void forbiddenWords(String code) {
        for (String pattern : FORBIDDEN) {
            Matcher m = Pattern.compile(pattern).matcher(code);
            if (m.find()) {
                fault("the source has " + m.group());
            }
        }
    }

    private static void thrown(String code) {
        Matcher m = Pattern.compile("throw new (\\w+)\\(").matcher(code);
        while (m.find()) {
            String name = m.group(1);
            if (!name.equals("ArithmeticException") && !name.equals("ArrayIndexOutOfBoundsException")) {
                fault("the document names no " + name);
            }
        }
    }

    private static void methodLengths(String source) {
        String[] lines = source.split("\n");
        int start = -1;
        String end = "";
        for (int i = 0; i < lines.length; i++) {
            Matcher head = Pattern.compile("^(    |        )(public|private)\\b.*\\).*\\{$").matcher(lines[i]);
            if (head.find()) {
                start = i;
                end = head.group(1) + "}";
            } else if (start >= 0 && lines[i].equals(end)) {
                if (i - start + 1 > LONGEST_METHOD) {
                    fault("a method is too long: " + lines[start].trim());
                }
                start = -1;
            }
        }
    }

    public static void main(String[] args) throws IOException {
        String source = Files.readString(SOURCE);
        String code = withoutWords(source);
        forbiddenWords(code);
        thrown(code);
        methodLengths(source);
        System.out.println("LanguageTest: " + (wrong == 0 ? "nothing outside the rules seen" : wrong + " faults"));
        if (wrong != 0) {
            System.exit(1);
        }
    }
}
