import java.io.IOException;
import java.nio.file.Files;
import java.nio.file.Path;
import java.util.ArrayList;
import java.util.HashMap;
import java.util.HashSet;
import java.util.List;
import java.util.Map;
import java.util.Set;
import java.util.regex.Matcher;
import java.util.regex.Pattern;

/** Rules of LANGUAGE.md that can be seen in the source as a text. */
public final class LanguageTest {
    private static final Check check = new Check("LanguageTest");
    private static final String[] FORBIDDEN = {"\\bthrow\\b", "\\btry\\b", "\\bcatch\\b", "\\bsynchronized\\b",
        "\\bassert\\b", "->", "::", "\\bpackage\\b", "\\bprotected\\b", "Exact\\b", "\\bhashCode\\b", "\\btoString\\b",
        "\\bObject\\b", "\\bThread\\b", "\\bRandom\\b", "\\bstatic \\{", "\\bvar\\b", "currentTime", "nanoTime"};

    public static void main(String[] args) throws IOException {
        String source = Files.readString(Path.of("src/main/java/RopeMoon.java"));
        String code = source.replaceAll("(?s)/\\*.*?\\*/", "").replaceAll("//[^\\n]*", "").replaceAll("\"[^\"\\n]*\"", "\"\"");
        for (String word : FORBIDDEN) {
            check.due("code with " + word, Pattern.compile(word).matcher(code).find() ? 1 : 0, 0);
        }
        check.due("imports other than Arrays", count(code, "\\bimport\\b") - count(code, "import java.util.Arrays;"), 0);
        check.due("classes, at most twelve", count(code, "\\bclass\\b") <= 12 ? 1 : 0, 1);
        for (char c : source.toCharArray()) {
            if (c > 126 || c < 32 && c != '\n') {
                check.due("a sign", c, 0);
            }
        }
        names(code);
        lengths(code);
        depths(bodies(code));
        check.finish();
    }

    private static int count(String code, String pattern) {
        Matcher m = Pattern.compile(pattern).matcher(code);
        int n = 0;
        while (m.find()) {
            n++;
        }
        return n;
    }

    private static void names(String code) {
        Set<String> open = new HashSet<>();
        List<String> hidden = new ArrayList<>();
        Matcher m = Pattern.compile("(public|private)( static)? [\\w\\[\\]]+ (\\w+)\\(([^)]*)\\)").matcher(code);
        while (m.find()) {
            if (m.group(1).equals("public")) {
                open.add(m.group(3));
            } else {
                hidden.add(m.group(3));
            }
            check.due("parameters of " + m.group(3) + ", at most seven", m.group(4).split(",").length <= 7 ? 1 : 0, 1);
        }
        check.due("public methods", open.size(), 40);
        for (String name : hidden) {
            check.due("a private method of the name " + name, open.contains(name) ? 1 : 0, 0);
        }
    }

    /** What stands in each method, by its name; methods of one name are taken together. */
    private static Map<String, String> bodies(String code) {
        Map<String, String> all = new HashMap<>();
        Matcher m = Pattern.compile("(?ms)^( +)(?:public|private)( static)? [\\w\\[\\]]+ (\\w+)\\([^)]*\\) \\{(.*?)^\\1\\}").matcher(code);
        while (m.find()) {
            all.merge(m.group(3), m.group(4), String::concat);
            if (calls(m.group(4), "(?<!\\.)" + m.group(3))) {
                check.due("calls itself and is static: " + m.group(3), m.group(2) == null ? 0 : 1, 1);
            }
        }
        return all;
    }

    private static boolean calls(String body, String name) {
        return Pattern.compile("\\b" + name + "\\(").matcher(body).find();
    }

    private static void depths(Map<String, String> bodies) {
        check.due("methods are found", bodies.size() > 100 ? 1 : 0, 1);
        for (String name : bodies.keySet()) {
            int deep = depth(bodies, name, 1);
            check.due("calls from " + name + " go " + deep + " deep, eight at most", deep <= 8 ? 1 : 0, 1);
        }
    }

    private static int depth(Map<String, String> bodies, String name, int level) {
        int most = level;
        for (String called : bodies.keySet()) {
            if (level < 20 && !called.equals(name) && calls(bodies.get(name), called)) {
                most = Math.max(most, depth(bodies, called, level + 1));
            }
        }
        return most;
    }

    private static void lengths(String code) {
        int start = 0;
        String[] lines = code.split("\n");
        for (int i = 0; i < lines.length; i++) {
            if (lines[i].matches(" {4}(public|private).*\\) \\{| {8}private.*\\) \\{")) {
                start = i;
            }
            if (lines[i].matches(" {4}\\}| {8}\\}")) {
                check.due("lines of the method that ends at line " + i, i - start <= 60 || start == 0 ? 1 : 0, 1);
                start = start == 0 ? 0 : i;
            }
        }
    }
}
