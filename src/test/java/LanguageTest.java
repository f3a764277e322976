import java.io.IOException;
import java.nio.file.Files;
import java.nio.file.Path;
import java.util.regex.Matcher;
import java.util.regex.Pattern;

/** The rules of ../shared/LANGUAGE.md that the written text of the class shows; FaceTest asks those of its parts. */
public final class LanguageTest {
    private static final Path SOURCE = Path.of("src/main/java/CellarClub.java");
    private static final int MOST_LINES = 60;

    /** What may not stand anywhere, with the number of its rule. */
    private static final String[][] FORBIDDEN = {
        {"1", "\\bpackage\\b"}, {"1", "\\bprotected\\b"},
        {"2", "->"}, {"2", "::"},
        {"3", "\\b(Object|List<Object>|Map|Set|BigInteger)\\b"}, {"3", "\\bnew (int|long|boolean)\\[[^\\]]*\\]\\[[^\\]]*\\]\\["},
        {"4", "\\bimport\\b"}, {"4", "\\bSystem\\.(?!arraycopy\\b)"}, {"4", "\\bMath\\.(?!max\\b|min\\b|abs\\b)"},
        {"4", "\\bInteger\\.(?!bitCount\\b)"}, {"4", "\\bjava\\."}, {"4", "Exact\\b"},
        {"5", "\\bstatic \\{"},
        {"6", "\\b(try|catch|finally|synchronized|assert)\\b"}, {"6", "\\b(equals|hashCode|toString)\\b"},
        {"6", "\\bthrow (?!new (IllegalStateException|IllegalArgumentException|IndexOutOfBoundsException)\\(\"\"\\);)"},
        {"9", "\\b(while|do)\\b"}, {"9", "for \\(;"}, {"10", "\"\"\\s*\\+|\\+\\s*\"\""},
        {"13", "\\b(Thread|Random|Runtime|native|volatile)\\b"},
    };

    public static void main(String[] args) throws IOException {
        Check check = new Check();
        String source = Files.readString(SOURCE);
        String code = withoutCommentsAndTexts(source);
        for (String[] rule : FORBIDDEN) {
            Matcher found = Pattern.compile(rule[1]).matcher(code);
            check.due("rule " + rule[0] + ", " + rule[1], found.find() ? 1 : 0, 0);
        }
        check.due("rule 1: one public class", count(code, "\\bpublic( final| static| abstract)* (class|enum|record)"), 1);
        check.due("rule 5: static fields are final", count(code, "\\bstatic (?!final\\b)[^(;{]*[;=]"), 0);
        plainSigns(check, source);
        shortMethods(check, code);
        check.end();
    }

    private static String withoutCommentsAndTexts(String source) {
        return source.replaceAll("\"[^\"\n]*\"", "\"\"").replaceAll("//[^\n]*", "").replaceAll("(?s)/\\*.*?\\*/", "");
    }

    private static int count(String code, String pattern) {
        return (int) Pattern.compile(pattern).matcher(code).results().count();
    }

    private static void plainSigns(Check check, String source) {
        for (int i = 0; i < source.length(); i++) {
            char c = source.charAt(i);
            if (c != '\n' && (c < ' ' || c > '~')) {
                check.due("rule 4: the sign at " + i, c, ' ');
            }
        }
    }

    /** The comments are gone from the code, so the lines are counted in what is left. */
    private static void shortMethods(Check check, String code) {
        String[] lines = code.split("\n");
        int depth = 0;
        int methods = 0;
        int[] beganAt = new int[100];
        for (int i = 0; i < lines.length; i++) {
            for (char c : lines[i].toCharArray()) {
                if (c == '{') {
                    beganAt[depth] = i;
                    depth++;
                } else if (c == '}') {
                    depth--;
                    boolean isMethod = depth > 0 && isHead(lines, beganAt[depth]);
                    methods += isMethod ? 1 : 0;
                    if (isMethod) {
                        check.due("rule 11: lines of the method" + lines[beganAt[depth]],
                                i - beganAt[depth] < MOST_LINES ? 1 : 0, 1);
                    }
                }
            }
        }
        check.due("all braces are closed", depth, 0);
        check.due("methods were found", methods > 29 ? 1 : 0, 1);
    }

    private static boolean isHead(String[] lines, int at) {
        String line = lines[at];
        return line.contains("(") && !line.matches(".*\\b(if|for|switch|else)\\b.*") || line.contains(" throws ");
    }
}
