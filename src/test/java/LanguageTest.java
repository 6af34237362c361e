import java.io.IOException;
import java.nio.file.Files;
import java.nio.file.Path;
import java.util.List;
import java.util.regex.Matcher;
import java.util.regex.Pattern;

/** Rules of LANGUAGE.md that can be seen in the program's text. */
public final class LanguageTest {
    private static final String[] BANNED = {"->", "::", "\\bfinally\\b", "\\bsynchronized\\b", "\\bassert\\b", "\\binstanceof\\b.*&&",
        "\\bordinal\\(", "\\bgetMessage\\(", "Exact\\(", "\\bSystem\\.(?!arraycopy)", "\\bjava\\.(?!util\\.Arrays;)", "\" \\+", "\\+ \"",
        "\\bprotected\\b", "\\bpackage\\b", "^\\s*static \\{", "\\bvar\\b", "\\bString\\.", "\\bArrays\\.(?!fill|copyOf)"};

    public static void main(String[] args) throws IOException {
        Check check = new Check();
        List<String> lines = Files.readAllLines(Path.of(args[0]));
        for (int i = 0; i < lines.size(); i++) {
            String code = lines.get(i).replaceAll("//.*|^\\s*/?\\*.*|/\\*\\*.*", "");
            for (String banned : BANNED) {
                check.due("line " + (i + 1) + " has " + banned, Pattern.compile(banned).matcher(code).find(), false);
            }
            check.due("line " + (i + 1) + " is of plain characters", lines.get(i).chars().allMatch(c -> c >= 32 && c < 127), true);
        }
        check.due("classes", count(lines, "\\b(class|enum|record|interface) [A-Z]\\w* (\\{|implements|extends)") <= 12, true);
        checkMethods(check, lines);
        check.end();
    }

    private static long count(List<String> lines, String pattern) {
        return lines.stream().filter(line -> Pattern.compile(pattern).matcher(line).find()).count();
    }

    /** A method begins at an indent of 4 or 8 and ends at the brace of the same indent. */
    private static void checkMethods(Check check, List<String> lines) {
        Pattern head = Pattern.compile("^( {4}| {8})(?! )(?!.*\\b(class|enum|record|interface) )(\\w.*)\\((.*?)\\)?.*$");
        int methods = 0;
        for (int i = 0; i < lines.size(); i++) {
            Matcher matcher = head.matcher(lines.get(i));
            if (!matcher.matches() || lines.get(i).endsWith(";") || lines.get(i).endsWith(",")) {
                continue;
            }
            int end = i;
            while (end < lines.size() && !lines.get(end).equals(matcher.group(1) + "}")) {
                end++;
            }
            methods++;
            check.due("the method at line " + (i + 1) + " is short", end - i <= 60, true);
        }
        check.due("methods were found", methods > 80, true);
    }
}
