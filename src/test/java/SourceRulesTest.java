import java.nio.file.Files;
import java.nio.file.Path;
import java.util.regex.Matcher;
import java.util.regex.Pattern;

/** Some rules of LANGUAGE.md that can be seen in the text of the class. */
public final class SourceRulesTest {
    public static void main(String[] args) throws Exception {
        Checks checks = new Checks();
        String text = Files.readString(Path.of("src/main/java/FiberLoom.java"));
        String code = text.replaceAll("(?s)/\\*.*?\\*/", "").replaceAll("//[^\n]*", "");
        String[] forbidden = {"throw", "throws", "try", "catch", "finally", "synchronized", "assert", "protected",
            "package", "native", "volatile", "transient", "Object", "Random", "Thread", "Runnable", "Exception",
            "String", "hashCode", "equals", "toString", "getClass", "currentTimeMillis", "nanoTime", "goto"};
        for (String word : forbidden) {
            checks.due("the word " + word, Pattern.compile("\\b" + word + "\\b").matcher(code).find(), false);
        }
        checks.due("a lambda or a method reference", code.contains("->") || code.contains("::"), false);
        checks.due("Exact functions", code.contains("Exact("), false);
        checks.due("one import", count(code, "\\bimport\\b"), 1);
        checks.due("it is Arrays", code.contains("import java.util.Arrays;"), true);
        checks.due("at most twelve classes", count(code, "\\bclass\\b") <= 12, true);
        checks.due("classes inside are private, static and final",
            count(code, "    private static final class ") + 1 == count(code, "\\bclass\\b"), true);
        checks.due("public members", count(code, "\\n    public "), 16);
        checks.due("public ones elsewhere", count(code, "\\bpublic\\b"), 17);
        String names = "feed|load|fault|method|instruction|row|begin|turns|fiber|frame|packed|object|output|about";
        checks.due("methods with a public one's name",
            count(code, "\\n +(private )?(static )?(final )?[A-Za-z\\[\\]]+ (" + names + ")\\([^)]*\\) \\{"), 0);
        checks.due("static fields are constants", count(code, "\\bstatic (?!final)"), 0);
        methodLengths(checks, code);
        checks.finish();
    }

    private static int count(String text, String pattern) {
        Matcher matcher = Pattern.compile(pattern).matcher(text);
        int many = 0;
        while (matcher.find()) {
            many++;
        }
        return many;
    }

    private static void methodLengths(Checks checks, String code) {
        String[] lines = code.split("\n");
        Pattern head = Pattern.compile("^( {4}| {8})(?! )[A-Za-z][^=;]*\\([^=;]*\\) \\{$");
        int found = 0;
        for (int at = 0; at < lines.length; at++) {
            Matcher matcher = head.matcher(lines[at]);
            if (!matcher.matches() || lines[at].contains(" class ")) {
                continue;
            }
            found++;
            int end = at + 1;
            while (end < lines.length && !lines[end].equals(matcher.group(1) + "}")) {
                end++;
            }
            checks.due("length of " + lines[at].trim(), end - at <= 60, true);
            String params = lines[at].substring(lines[at].indexOf('('));
            checks.due("params of " + lines[at].trim(), params.split(",").length <= 7, true);
        }
        checks.due("methods were found", found > 100, true);
    }
}
