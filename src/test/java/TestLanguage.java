import java.io.IOException;
import java.nio.charset.StandardCharsets;
import java.nio.file.Files;
import java.nio.file.Path;
import java.util.regex.Matcher;
import java.util.regex.Pattern;

/** What a look at the source can tell of LANGUAGE.md: words and library calls that it leaves out. */
public final class TestLanguage {
    private static final Due DUE = new Due();
    private static final String[] BANNED = {
        "->", "::", "\\bimport\\b", "\\bpackage\\b", "\\btry\\b", "\\bcatch\\b", "\\bthrow\\b", "\\bfinally\\b",
        "\\bassert\\b", "\\bsynchronized\\b", "\\bvolatile\\b", "\\bstatic\\s*\\{", "\\bdouble\\b", "\\bfloat\\b",
        "\\bvar\\b", "@", "\"", "\\.\\.\\.", "Exact\\b", "\\bRandom\\b", "\\bThread\\b", "\\bhashCode\\b",
        "\\btoString\\b", "\\bequals\\b", "\\bnull\\b", "\\bwhile\\b"
    };
    private static final Pattern LIBRARY = Pattern.compile("\\b(System|Math|Integer|Long|Arrays|String|StringBuilder)\\.(\\w+)");

    public static void main(String[] args) throws IOException {
        String source = Files.readString(Path.of("src/main/java/LeastAlone.java"), StandardCharsets.UTF_8);
        for (int i = 0; i < source.length(); i++) {
            if (source.charAt(i) > 126) {
                DUE.is("sign at " + i, source.charAt(i), 0);
            }
        }
        String code = source.replaceAll("(?s)/\\*.*?\\*/", " ").replaceAll("//[^\n]*", " ");
        for (String word : BANNED) {
            DUE.holds("without " + word, !Pattern.compile(word).matcher(code).find());
        }
        Matcher calls = LIBRARY.matcher(code);
        while (calls.find()) {
            String call = calls.group(1) + "." + calls.group(2);
            DUE.holds(call + " is allowed", call.equals("System.arraycopy") || call.equals("Integer.bitCount"));
        }
        DUE.end("TestLanguage");
    }
}
