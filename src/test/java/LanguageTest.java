import java.io.IOException;
import java.nio.file.Files;
import java.nio.file.Path;
import java.util.regex.Matcher;
import java.util.regex.Pattern;

/** What of LANGUAGE.md can be seen in the class's text; the rule's number stands in front of what is asked. */
public final class LanguageTest {
    private static final Pattern HEAD =
        Pattern.compile("(?:public|private) (?:static )?(?:\\w+(?:\\[\\])* )?\\w+\\(([^)]*)\\)[^;{]*\\{");
    private static final String[] OUTSIDE = {
        "\\bpackage\\b", "\\bprotected\\b", "->", "::", "\\bsynchronized\\b", "\\bassert\\b", "\\bfinally\\b",
        "\\bthrow new (?!IllegalArgumentException\\(\"|NoSuchElementException\\(\")", "\\bcatch\\b", "\\btry\\b",
        "Exact\\(", "\\bhashCode\\b", "\\btoString\\b", "\\bstatic \\{", "\\bfloat\\b",
        "\\bdouble\\b", "while \\(true\\)", "for \\([^;]*;\\s*;", "\\bvolatile\\b", "\\bnative\\b", "\\bThread\\b",
        "\\bSystem\\.(?!arraycopy\\()", "\\bArrays\\.(?!fill\\(|copyOf\\(|copyOfRange\\()",
        "\\bimport (?!java\\.util\\.Arrays;|java\\.util\\.NoSuchElementException;)",
        "\\bstatic (?!final )(?!class )\\w+(?:\\[\\])* \\w+( =|;)",
    };

    public static void main(String[] args) throws IOException {
        String code = withoutComments(Files.readString(Path.of("src/main/java/RopeTown.java")));
        for (String form : OUTSIDE) {
            Matcher found = Pattern.compile(form).matcher(code);
            Check.sameText("outside the rules: " + form, "", found.find() ? found.group() : "");
        }
        Check.same("11: classes, some twelve", 1, count(code, "\\b(?:class|enum|interface|record) [A-Z]\\w* ") <= 12 ? 1 : 0);
        Check.same("1: one public class", 1, count(code, "\\bpublic (?:final )?class\\b"));
        Check.same("5: values() kept once", 1, count(code, "\\.values\\(\\)"));
        checkMethods(code);
        Check.end("LanguageTest");
    }

    private static String withoutComments(String code) {
        return code.replaceAll("(?s)/\\*.*?\\*/", "").replaceAll("//[^\n]*", "");
    }

    private static int count(String code, String form) {
        Matcher found = Pattern.compile(form).matcher(code);
        int times = 0;
        while (found.find()) {
            times++;
        }
        return times;
    }

    private static void checkMethods(String code) {
        Matcher head = HEAD.matcher(code);
        int methods = 0;
        while (head.find()) {
            methods++;
            int parameters = head.group(1).isEmpty() ? 0 : head.group(1).split(",").length;
            Check.same("11: at most seven parameters: " + head.group(), 1, parameters <= 7 ? 1 : 0);
            String body = body(code, head.end());
            Check.same("11: some sixty lines: " + head.group(), 1, count(body, "\n") <= 60 ? 1 : 0);
        }
        Check.same("methods that were looked at", 1, methods > 80 ? 1 : 0);
    }

    private static String body(String code, int from) {
        int open = 1;
        int end = from;
        while (open > 0) {
            char c = code.charAt(end);
            open += c == '{' ? 1 : c == '}' ? -1 : 0;
            end++;
        }
        return code.substring(from, end);
    }
}
