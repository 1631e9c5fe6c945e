import java.io.IOException;
import java.nio.file.Files;
import java.nio.file.Path;
import java.util.List;
import java.util.regex.Matcher;
import java.util.regex.Pattern;

/** What a look at the text of the class can tell of the rules of LANGUAGE.md. */
public final class LanguageTest {
    private static final int LONGEST_METHOD = 60;
    private static final List<String> FORBIDDEN = List.of("\\bimport\\b", "\\bpackage\\b", "->", "::", "\\btry\\b",
            "\\bcatch\\b", "\\bfinally\\b", "\\bassert\\b", "\\bsynchronized\\b", "\\bhashCode\\b", "\\btoString\\b",
            "\\bprotected\\b", "\\binstanceof\\b", "Exact\\(", "\\bSystem\\.(?!arraycopy)", "\\bThread\\b", "\\bNaN\\b");
    private static final Check CHECK = new Check();

    private static String withoutComments(String source) {
        return source.replaceAll("(?s)/\\*.*?\\*/", "").replaceAll("//[^\n]*", "");
    }

    private static void methodLengths(List<String> lines) {
        int begin = -1;
        for (int i = 0; i < lines.size(); i++) {
            String line = lines.get(i);
            if (line.matches(" {4,8}[a-zA-Z].*[({,]") && line.contains("(") && !line.contains(" class ")) {
                begin = i;
            } else if (line.matches(" {4,8}}") && begin >= 0) {
                CHECK.due("method at line " + (begin + 1) + " is short", i - begin < LONGEST_METHOD, true);
                begin = -1;
            }
        }
    }

    private static void throwsOf(String code) {
        Matcher matcher = Pattern.compile("\\bthrow\\b[^;]*;").matcher(code);
        while (matcher.find()) {
            boolean isPlain = matcher.group().matches(
                    "throw new (IllegalArgument|IllegalState|IndexOutOfBounds)Exception\\(\"[ -~]*\"\\);");
            CHECK.due(matcher.group(), isPlain, true);
        }
    }

    public static void main(String[] args) throws IOException {
        Path path = Path.of("src/main/java/PromiseMarket.java");
        String source = Files.readString(path);
        String code = withoutComments(source);
        for (String forbidden : FORBIDDEN) {
            CHECK.due("finds " + forbidden, Pattern.compile(forbidden).matcher(code).find(), false);
        }
        CHECK.due("ASCII alone", source.matches("(?s)[\n -~]*"), true);
        CHECK.due("static fields are final", Pattern.compile("static (?!final)[a-zA-Z\\[\\]]+ \\w+( =[^;]*)?;")
                .matcher(code).find(), false);
        int classes = code.split("\\b(class|enum|interface|record) [A-Z]").length - 1;
        CHECK.due("classes in the file (" + classes + ")", classes <= 12, true);
        throwsOf(code);
        methodLengths(Files.readAllLines(path));
        CHECK.end();
    }
}
