import java.io.IOException;
import java.nio.file.Files;
import java.nio.file.Path;
import java.util.regex.Matcher;
import java.util.regex.Pattern;

/** What of ../shared/LANGUAGE.md can be seen by looking at the words of the source. */
public final class LanguageTest {
    private static final Due DUE = new Due("language");
    private static final String[] RULED_OUT = {
        "\\bthrow\\b", "\\bthrows\\b", "\\btry\\b", "\\bcatch\\b", "\\bsynchronized\\b", "\\bassert\\b",
        "->", "::", "@\\w+", "\\bpackage\\b", "\\bprotected\\b", "\\w+Exact\\b", "\\bstatic\\s*\\{",
        "\\bThread\\b", "\\bRandom\\b", "\\bObject\\b", "\\bhashCode\\b", "\\bvar\\b", "\\bequals\\b",
        "System\\.(?!arraycopy)\\w+", "\\bimport\\b(?! java\\.util\\.(Arrays|ArrayList|List);)"};

    public static void main(String[] args) throws IOException {
        String source = Files.readString(Path.of("src/main/java/PillowCourt.java"));
        String code = source.replaceAll("(?s)/\\*.*?\\*/", "").replaceAll("//[^\n]*", "");
        for (String pattern : RULED_OUT) {
            DUE.is(pattern, many(code, pattern), 0);
        }
        DUE.is("signs beyond 127", many(source, "[^\\x00-\\x7f]"), 0);
        DUE.is("at most twelve classes", many(code, "\\b(class|enum|record|interface)\\s+\\w+") <= 12 ? 1 : 0, 1);
        DUE.is("static fields that are not final", many(code, "\\bstatic (?!final|class|abstract)[\\w\\[\\]]+ \\w+\\s*[=;]"), 0);
        checkLengths(code);
        DUE.end();
    }

    private static int many(String text, String pattern) {
        Matcher m = Pattern.compile(pattern).matcher(text);
        int n = 0;
        while (m.find()) {
            n++;
        }
        return n;
    }

    /** Methods begin and end with a brace at four or eight blanks. */
    private static void checkLengths(String code) {
        Matcher m = Pattern.compile("(?m)^((?: {4}){1,2})[\\w\\[\\] ]+ (\\w+)\\(([^)]*)\\) \\{\n((?s:.*?))^\\1\\}").matcher(code);
        int methods = 0;
        while (m.find()) {
            methods++;
            DUE.is(m.group(2) + " has at most 60 lines", m.group(4).lines().count() <= 60 ? 1 : 0, 1);
            DUE.is(m.group(2) + " takes at most 7", m.group(3).split(",").length <= 7 ? 1 : 0, 1);
        }
        DUE.is("methods were found", methods > 30 ? 1 : 0, 1);
    }
}
