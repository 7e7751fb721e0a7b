import java.nio.file.Files;
import java.nio.file.Path;
import java.util.regex.Matcher;
import java.util.regex.Pattern;

/** Words of LANGUAGE.md's rules that the program must not hold; .ci/run starts it in the project's folder. */
public final class LanguageTest {
    private static final String[] FORBIDDEN = {
        "\\bthrow\\b", "\\bthrows\\b", "\\btry\\b", "\\bcatch\\b", "\\bsynchronized\\b", "\\bassert\\b",
        "\\bpackage\\b", "\\bprotected\\b", "->", "::", "Exact\\b", "\\bequals\\b", "\\bhashCode\\b",
        "\\btoString\\b", "\\bSystem\\.(?!arraycopy)", "\\bvolatile\\b", "\\bnative\\b", "@",
        "\\bimport (?!java\\.util\\.ArrayList;)", "static \\{",
    };

    public static void main(String[] args) throws Exception {
        Check check = new Check();
        String source = Files.readString(Path.of("src/main/java/CustomerNotices.java"));
        String code = source.replaceAll("(?s)/\\*.*?\\*/", "").replaceAll("//[^\n]*", "");
        for (String word : FORBIDDEN) {
            Matcher found = Pattern.compile(word).matcher(code);
            check.due(word, found.find(), false);
        }
        check.end();
    }
}
