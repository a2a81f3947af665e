import java.io.IOException;
import java.nio.file.Files;
import java.nio.file.Path;
import java.util.List;
import java.util.regex.Matcher;
import java.util.regex.Pattern;

/** Those rules of LANGUAGE.md that the text of the class shows. */
public final class SourceTest {
    private static final Path SOURCE = Path.of("src/main/java/LispMachine.java");
    private static final int MOST_LINES = 60;

    public static void main(String[] args) throws IOException {
        String source = Files.readString(SOURCE);
        String code = source.replaceAll("(?s)/\\*.*?\\*/", "").replaceAll("//[^\n]*", "");
        String bare = code.replaceAll("\"[^\"\n]*\"", "\"\"").replaceAll("'(\\\\.|[^\\\\])'", "' '");
        banned(bare);
        imports(code);
        characters(source);
        methods(bare);
        Session.finish();
    }

    private static void banned(String code) {
        String[] words = {"throw", "throws", "try", "catch", "finally", "synchronized", "assert", "protected",
            "package", "volatile", "transient", "native", "super", "hashCode", "toString", "equals",
            "Object", "System.out", "Exact", "Thread", "Random", "double", "float"};
        for (String word : words) {
            boolean found = Pattern.compile("\\b" + Pattern.quote(word) + "\\b").matcher(code).find();
            Session.same("the word " + word, found, false);
        }
        Session.same("a lambda", code.contains("->"), false);
        Session.same("a method reference", code.contains("::"), false);
        Session.same("a static block", Pattern.compile("static\\s*\\{").matcher(code).find(), false);
        Session.same("an endless loop", Pattern.compile("while\\s*\\(true\\)|for\\s*\\(;;").matcher(code).find(), false);
        Session.same("a static field that isn't final",
                Pattern.compile("static (?!final)[\\w\\[\\]]+ \\w+\\s*[=;]").matcher(code).find(), false);
        Session.same("a class inside that isn't static and private",
                Pattern.compile("(?<!private static final )(?<!public final )class \\w+").matcher(code).find(), false);
    }

    private static void imports(String code) {
        Matcher matcher = Pattern.compile("import ([\\w.*]+);").matcher(code);
        while (matcher.find()) {
            Session.same("an import", matcher.group(1), "java.util.Arrays");
        }
    }

    private static void characters(String source) {
        Session.same("plain characters alone", source.chars().allMatch(c -> c == '\n' || c >= 32 && c < 127), true);
    }

    private static void methods(String code) {
        List<String> lines = code.lines().toList();
        Pattern head = Pattern.compile("^( +)(?:[\\w\\[\\]]+ )*(\\w+)\\(([^()]*)\\) \\{$");
        for (int i = 0; i < lines.size(); i++) {
            Matcher matcher = head.matcher(lines.get(i));
            if (matcher.find()) {
                int end = i;
                while (end < lines.size() && !lines.get(end).equals(matcher.group(1) + "}")) {
                    end++;
                }
                Session.same(matcher.group(2) + " is short", end - i < MOST_LINES, true);
                Session.same(matcher.group(2) + " has few parameters", matcher.group(3).split(",").length <= 7, true);
            }
        }
    }
}
