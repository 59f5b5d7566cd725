import java.io.IOException;
import java.nio.file.Files;
import java.nio.file.Path;
import java.util.regex.Matcher;
import java.util.regex.Pattern;

/** What of LANGUAGE.md can be seen in the source's text. Its path is the first argument. */
public final class LanguageTest {
    private static final String[] RULED_OUT = {
        "throw", "throws", "try", "catch", "finally", "synchronized", "assert", "import", "package", "protected",
        "native", "volatile", "transient", "var", "yield", "Object", "Thread", "System\\.(?!arraycopy)\\w+",
        "\\w+Exact", "hashCode", "toString", "NaN", "static\\s*\\{", "->", "::", "\"\\s*\\+", "\\+\\s*\"",
        "\\w+Exception", "MAX_VALUE", "MIN_VALUE", "float", "double"
    };

    public static void main(String[] args) throws IOException {
        String source = Files.readString(Path.of(args.length > 0 ? args[0] : "src/main/java/AsleepPass.java"));
        String code = source.replaceAll("(?s)/\\*.*?\\*/", "").replaceAll("//[^\n]*", "");
        for (String word : RULED_OUT) {
            String bounded = Character.isLetter(word.charAt(0)) ? "\\b" + word + (word.endsWith("{") ? "" : "\\b") : word;
            Matcher matcher = Pattern.compile(bounded).matcher(code);
            Check.dueTrue("there is no " + word, !matcher.find());
        }
        Check.dueTrue("signs are of 1 to 127", source.chars().allMatch(sign -> sign > 0 && sign < 128));
        Check.dueTrue("static fields are final", !Pattern.compile("\\bstatic (?!final\\b)[\\w\\[\\]]+ \\w+( =|;|,)").matcher(code).find());
        parameters(code);
        lengths(code);
        Check.finish();
    }

    private static void parameters(String code) {
        Matcher matcher = Pattern.compile("(?m)^ {4,8}(?:public|private)[^;={]*\\(([^)]*)\\) \\{").matcher(code);
        int seen = 0;
        while (matcher.find()) {
            seen++;
            Check.dueTrue("at most seven: " + matcher.group(), matcher.group(1).split(",").length <= 7);
        }
        Check.dueTrue("methods are seen", seen > 100);
    }

    /** From a method's head to the brace that closes it in the same column. */
    private static void lengths(String code) {
        Matcher matcher = Pattern.compile("(?ms)^( {4}| {8})(?:public|private)[^;={\n]*\\([^)]*\\) \\{\n.*?^\\1\\}").matcher(code);
        while (matcher.find()) {
            long lines = matcher.group().lines().count();
            Check.dueTrue(lines + " lines: " + matcher.group().lines().findFirst().orElse(""), lines <= 60);
        }
    }
}
