import java.io.IOException;
import java.nio.file.Files;
import java.nio.file.Path;
import java.util.TreeSet;
import java.util.regex.Matcher;
import java.util.regex.Pattern;

/** Some of the rules of LANGUAGE.md that can be seen in the text of the program. */
public final class LanguageTest {
    private static final String[] FORBIDDEN = {"\\bimport\\b", "\\bpackage\\b", "->", "::", "\\bfinally\\b", "\\bsynchronized\\b",
        "\\bassert\\b", "\\bprotected\\b", "String\\s*\\[", "\"\\s*\\+", "\\+\\s*\"", "Exact\\(", "\\bcatch\\b", "static \\{",
        "\\bstatic (?!final\\b)[\\w\\[\\]]+ \\w+( =.*)?;", "\\.(hashCode|trim|toLowerCase|startsWith|endsWith|format)\\("};

    public static void main(String[] args) throws IOException {
        String source = Files.readString(Path.of("src/main/java/TabKernel.java"));
        String code = source.replaceAll("(?s)/\\*.*?\\*/", "").replaceAll("//(?!\").*", "").replaceAll("\"[^\"\n]*\"", "\"\"");
        for (String pattern : FORBIDDEN) {
            Matcher found = Pattern.compile(pattern).matcher(code);
            Bench.same(pattern, found.find() ? found.group() : "none", "none");
        }
        Bench.same("at most twelve classes", all(code, "\\bclass (\\w+)").size() <= 12, true);
        TreeSet<String> both = all(code, "    public [\\w]+ (\\w+)\\(");
        Bench.same("public methods", both.size(), 25);
        both.retainAll(all(code, "(?m)^ +(?!public|return|throw|new|else)(?:private |static |final )*[\\w\\[\\]]+ (\\w+)\\([^;]*\\{$"));
        Bench.same("other methods with a public one's name", both.toString(), "[]");
        Bench.end();
    }

    private static TreeSet<String> all(String code, String pattern) {
        TreeSet<String> names = new TreeSet<>();
        Matcher found = Pattern.compile(pattern).matcher(code);
        while (found.find()) {
            names.add(found.group(1));
        }
        return names;
    }
}
