import java.io.IOException;
import java.nio.file.Files;
import java.nio.file.Path;
import java.util.regex.Matcher;
import java.util.regex.Pattern;

/** What can be seen of LANGUAGE.md's rules in the text of the class. */
final class LanguageTest {
    private static final String[] BANNED = {
        "\\b(throw|throws|try|catch|finally|synchronized|assert|package|native|volatile|transient)\\b",
        "->", "::", "\\bpublic static (?!final)", "\\bprotected\\b", "\\bstatic \\{", "\\bObject\\b", "\\bvar\\b",
        "\\bnull\\b", "\\w+Exact\\b", "\\bInteger\\.M", "\\bLong\\.M", "\\bString\\.", "\\.equals\\(",
        "\\bhashCode\\b", "\\btoString\\b", "\\binstanceof\\b", "\\bdouble\\b", "\\bfloat\\b",
        "System\\.(?!arraycopy)", "\\bThread\\b", "\\bRandom\\b", "[^\\x00-\\x7f]",
        "import (?!java\\.util\\.Arrays;)", "Arrays\\.(?!fill\\()", "Math\\.(?!(abs|min|max|floorDiv|floorMod)\\()",
        "while \\(true\\)", "for \\(;;"};

    private LanguageTest() {
    }

    public static void main(String[] args) throws IOException {
        Due due = new Due("LanguageTest");
        String file = System.getProperty("class.file", "src/main/java/NextFigures.java");
        String source = Files.readString(Path.of(file));
        String code = source.replaceAll("(?s)/\\*.*?\\*/", "").replaceAll("//[^\n]*", "");
        for (String banned : BANNED) {
            Matcher m = Pattern.compile(banned).matcher(code);
            due.holds("the class has no " + banned, !m.find());
        }
        due.holds("texts are not joined by +", !Pattern.compile("\"\\s*\\+|\\+\\s*\"").matcher(code).find());
        methodLengths(due, source);
        due.end();
    }

    /** A method begins with a line that opens a brace at depth 4 or 8 and ends where that depth closes. */
    private static void methodLengths(Due due, String source) {
        String name = "";
        String indent = "";
        int began = -1;
        String[] lines = source.split("\n");
        for (int i = 0; i < lines.length; i++) {
            Matcher m = Pattern.compile("^( {4}| {8})(public|private)[^=]*\\b(\\w+)\\([^=]*\\{$").matcher(lines[i]);
            if (m.find()) {
                indent = m.group(1);
                name = m.group(3);
                began = i;
            } else if (began >= 0 && lines[i].equals(indent + "}")) {
                due.holds(name + " has at most some sixty lines", i - began < 60);
                began = -1;
            }
            due.holds("line " + (i + 1) + " is of a width to be read", lines[i].length() <= 120);
        }
    }
}
