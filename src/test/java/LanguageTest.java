import java.nio.file.Files;
import java.nio.file.Path;
import java.util.regex.Matcher;
import java.util.regex.Pattern;

/** The rules of LANGUAGE.md that can be seen from the words of the source alone. */
final class LanguageTest {
    private static final Due DUE = new Due("LanguageTest");
    private static final String[] REFUSED = {
        "\\bthrow\\b", "\\bthrows\\b", "\\btry\\b", "\\bcatch\\b", "\\bfinally\\b",
        "\\bsynchronized\\b", "\\bassert\\b", "\\bvolatile\\b", "\\bThread\\b", "\\bRandom\\b",
        "\\bimport\\b", "\\bpackage\\b", "\\bObject\\b", "->", "::", "Exact\\b", "\\bnative\\b",
        "\\bSystem\\.(?!arraycopy)", "\\bhashCode\\b", "\\btoString\\b", "\\bgetClass\\b",
        "\\bstatic \\{", "\\bMath\\.(?!max|min|abs|floorMod|floorDiv)", "\\bvar\\b",
        "\\bprotected\\b", "\"\\s*\\+", "\\+\\s*\"",
    };

    public static void main(String[] args) throws Exception {
        String source = Files.readString(Path.of("src/main/java/PicturePegs.java"));
        DUE.holds("plain signs", source.chars().allMatch(sign -> sign < 128));
        String code = source.replaceAll("(?s)/\\*.*?\\*/", "").replaceAll("//[^\n]*", "");
        for (String refused : REFUSED) {
            Matcher m = Pattern.compile(refused).matcher(code);
            DUE.holds("no " + refused, !m.find());
        }
        int classes = 0;
        Matcher m = Pattern.compile("\\bclass \\w+").matcher(code);
        while (m.find()) {
            classes++;
        }
        DUE.holds("at most twelve classes", classes <= 12);
        methodsAreShort(code);
        DUE.end();
    }

    private static void methodsAreShort(String code) {
        String[] lines = code.split("\n");
        int begun = -1;
        String end = "";
        for (int i = 0; i < lines.length; i++) {
            Matcher m = Pattern.compile("^( {4}| {8})(?! )[\\w\\[\\] ]*\\w+\\([^()]*\\) \\{$").matcher(lines[i]);
            if (begun < 0 && m.find() && !lines[i].contains("if (") && !lines[i].contains("for (")) {
                begun = i;
                end = m.group(1) + "}";
            } else if (begun >= 0 && lines[i].equals(end)) {
                DUE.holds("short: " + lines[begun].trim(), i - begun < 60);
                begun = -1;
            }
        }
    }
}
