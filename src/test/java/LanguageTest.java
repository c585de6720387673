import java.io.IOException;
import java.nio.file.Files;
import java.nio.file.Path;
import java.util.HashMap;
import java.util.HashSet;
import java.util.Map;
import java.util.Set;
import java.util.regex.Matcher;
import java.util.regex.Pattern;

/** What can be seen of LANGUAGE.md's rules in the text of the class. */
final class LanguageTest {
    private static final String[] BANNED = {
        "\\b(throw|throws|try|catch|finally|synchronized|assert|package|native|volatile|transient)\\b",
        "->", "::", "\\bpublic static (?!final)", "\\bprotected\\b", "\\bstatic \\{", "\\bObject\\b", "\\bvar\\b",
        "\\bnull\\b", "\\w+Exact\\b", "\\bInteger\\.M", "\\bLong\\.M", "\\bString\\.", "\\.equals\\(",
        "\\bhashCode\\b", "\\btoString\\b", "\\binstanceof\\b", "\\bdouble\\b", "\\bfloat\\b",
        "System\\.(?!arraycopy)", "\\bThread\\b", "\\bRandom\\b", "[^\\x00-\\x7f]",
        "import (?!java\\.util\\.Arrays;)", "Arrays\\.(?!fill\\()", "Math\\.(?!(abs|min|max|floorDiv|floorMod)\\()",
        "while \\(true\\)", "for \\(;;"};

    private LanguageTest() {
    }

    public static void main(String[] args) throws IOException {
        Due due = new Due("LanguageTest");
        String file = System.getProperty("class.file", "src/main/java/NextFigures.java");
        String source = Files.readString(Path.of(file));
        String code = source.replaceAll("(?s)/\\*.*?\\*/", "").replaceAll("//[^\n]*", "");
        for (String banned : BANNED) {
            Matcher m = Pattern.compile(banned).matcher(code);
            due.holds("the class has no " + banned, !m.find());
        }
        due.holds("texts are not joined by +", !Pattern.compile("\"\\s*\\+|\\+\\s*\"").matcher(code).find());
        methodLengths(due, source);
        Map<String, String> bodies = bodiesOf(due, code);
        due.holds("methods are found", bodies.size() > 100);
        for (String name : bodies.keySet()) {
            int deep = depthOf(due, name, bodies, new HashSet<>());
            due.holds(name + " goes " + deep + " deep, eight at most", deep <= 8);
        }
        due.end();
    }

    /** Of each name what is done under it, with the rules that a method keeps by itself. */
    private static Map<String, String> bodiesOf(Due due, String code) {
        Map<String, String> bodies = new HashMap<>();
        String header = "(?m)^( {4}| {8})((?:public|private) (?:static )?)(\\w+ )?(\\w+)\\(([^=;]*?)\\) \\{$";
        Matcher m = Pattern.compile(header + "((?s).*?)^\\1\\}$").matcher(code);
        while (m.find()) {
            String name = m.group(4);
            String body = m.group(6);
            boolean isConstructor = m.group(3) == null;
            boolean callsItself = Pattern.compile("\\b" + name + "\\(").matcher(body).find();
            due.holds(name + " makes no object", isConstructor || !Pattern.compile("\\bnew\\b").matcher(body).find());
            due.holds(name + " calls itself only as a private static one",
                !callsItself || m.group(2).equals("private static "));
            boolean isOfFace = m.group(2).equals("public ");
            due.holds(name + " takes at most seven", isOfFace || m.group(5).split(",").length <= 7);
            bodies.merge(name, body, String::concat);
        }
        return bodies;
    }

    /** How many calls stand open at once below a name, the library's too, a recursion counted once. */
    private static int depthOf(Due due, String name, Map<String, String> bodies, Set<String> open) {
        open.add(name);
        int most = 1;
        Matcher m = Pattern.compile("(\\.|\\b)(\\w+)\\(").matcher(bodies.get(name));
        while (m.find()) {
            String called = m.group(2);
            if (!bodies.containsKey(called)) {
                most = Math.max(most, m.group(1).equals(".") ? 2 : 1);
            } else if (!called.equals(name)) {
                due.holds(name + " and " + called + " do not call one another", !open.contains(called));
                most = Math.max(most, open.contains(called) ? 1 : 1 + depthOf(due, called, bodies, open));
            }
        }
        open.remove(name);
        return most;
    }

    /** A method begins with a line that opens a brace at depth 4 or 8 and ends where that depth closes. */
    private static void methodLengths(Due due, String source) {
        String name = "";
        String indent = "";
        int began = -1;
        String[] lines = source.split("\n");
        for (int i = 0; i < lines.length; i++) {
            Matcher m = Pattern.compile("^( {4}| {8})(public|private)[^=]*\\b(\\w+)\\([^=]*\\{$").matcher(lines[i]);
            if (m.find()) {
                indent = m.group(1);
                name = m.group(3);
                began = i;
            } else if (began >= 0 && lines[i].equals(indent + "}")) {
                due.holds(name + " has at most some sixty lines", i - began < 60);
                began = -1;
            }
            due.holds("line " + (i + 1) + " is of a width to be read", lines[i].length() <= 120);
        }
    }
}
