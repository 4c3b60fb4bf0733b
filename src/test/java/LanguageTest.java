import java.io.IOException;
import java.nio.file.Files;
import java.nio.file.Path;
import java.util.regex.Matcher;
import java.util.regex.Pattern;

/** What can be seen of the rules of LANGUAGE.md in the program's text without understanding it. */
public final class LanguageTest {
    private static final String[] FORBIDDEN = {
        "\\btry\\b", "\\bcatch\\b", "\\bfinally\\b", "\\bsynchronized\\b", "\\bassert\\b", "->", "::",
        "\\bgetMessage\\b", "\\bMath\\.\\w*Exact\\b", "\\bequals\\b", "\\bhashCode\\b", "\\btoString\\b",
        "\\bSystem\\.(?!arraycopy)", "\\bjava\\.(?!util\\.(Arrays|NoSuchElementException);)", "\\bprotected\\b",
        "\\binterface\\b", "\\bvar\\b", "\\bThread\\b", "\\bRandom\\b", "\"\\s*\\+", "\\+\\s*\"",
        "\\bstatic\\s+(?!final\\b)(?!class\\b)\\w+(\\[\\])*\\s+\\w+\\s*[=;]", "\\bString\\[\\]"
    };

    public static void main(String[] args) throws IOException {
        String text = Files.readString(Path.of("src/main/java/Handshakewarden.java"));
        Check.due("signs from 1 to 127 alone", true, text.chars().allMatch(sign -> sign > 0 && sign < 128));
        String code = text.replaceAll("(?s)/\\*.*?\\*/", "").replaceAll("//[^\n]*", "");
        for (String forbidden : FORBIDDEN) {
            Matcher found = Pattern.compile(forbidden).matcher(code);
            Check.due(forbidden, "none", found.find() ? found.group() : "none");
        }
        Check.due("no package", false, code.contains("package "));
        Check.due("classes", true, count(code, "\\bclass \\w+") <= 12);
        Check.due("public members", 46, count(code, "(?m)^    public "));
        Check.due("throws", count(code, "\\bthrow "), count(code, "\\bthrow new \\w+\\((\"[^\"]*\")?\\);"));
        methodsAreShort(code);
        Check.end("LanguageTest");
    }

    private static int count(String code, String what) {
        Matcher found = Pattern.compile(what).matcher(code);
        int count = 0;
        while (found.find()) {
            count++;
        }
        return count;
    }

    /** A method begins with a line that ends in ") {" or in its exceptions, and ends by its indent. */
    private static void methodsAreShort(String code) {
        String[] lines = code.split("\n");
        for (int i = 0; i < lines.length; i++) {
            Matcher head = Pattern.compile("^( {4}| {8})[a-zA-Z].*[(].*\\{$|^( {4}| {8}) {8}throws .*\\{$").matcher(lines[i]);
            if (!head.matches() || lines[i].contains(" class ") || lines[i].trim().startsWith("if ")) {
                continue;
            }
            String indent = head.group(1) != null ? head.group(1) : head.group(2);
            int end = i;
            while (end < lines.length && !lines[end].equals(indent + "}")) {
                end++;
            }
            Check.due("lines of " + lines[i].trim(), true, end - i < 60);
        }
    }
}
