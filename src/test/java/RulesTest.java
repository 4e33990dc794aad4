import java.nio.charset.StandardCharsets;
import java.nio.file.Files;
import java.nio.file.Path;
import java.util.HashMap;
import java.util.Map;
import java.util.regex.Matcher;
import java.util.regex.Pattern;

/** What of LANGUAGE.md can be seen in the text of the class: words that it rules out, lengths, raw indices. */
final class RulesTest {
    private static final String[] BANNED = {
        "\\bimport\\b", "\\bcatch\\b", "\\btry\\b", "\\bfinally\\b", "\\bsynchronized\\b", "\\bassert\\b",
        "\\bprotected\\b", "->", "::", "\\bSystem\\.(?!arraycopy\\b)", "\\bMath\\.(?!max\\b|min\\b)", "\\bDouble\\b",
        "\\bThread\\b", "\\bRandom\\b", "\\bObject\\b", "\\binstanceof\\b", "\\bequals\\b", "\\bhashCode\\b",
        "\\btoString\\b", "\\bwhile\\b", "\\bString\\b", "@"};

    /** Without comments and literals. */
    private static String bare(String source) {
        return source.replaceAll("(?s)/\\*.*?\\*/", "").replaceAll("//[^\n]*", "").replaceAll("\"[^\"\n]*\"", "\"\"")
            .replaceAll("'[^']'", "0");
    }

    private static void longest(Check c, String source) {
        int lines = 0;
        int most = 0;
        boolean isMethod = false;
        for (String line : source.split("\n")) {
            if (line.matches("( {4}| {8})(public|private)[^=;]*\\{")) {
                isMethod = !line.contains(" class ");
                lines = 0;
            }
            lines += isMethod ? 1 : 0;
            most = Math.max(most, lines);
            if (line.matches("( {4}| {8})\\}")) {
                isMethod = false;
            }
        }
        c.due("the longest method has at most 60 lines", most <= 60, true);
    }

    private static Map<String, String> bodies(Check c, String bare) {
        Map<String, String> bodies = new HashMap<>();
        String name = null;
        StringBuilder body = new StringBuilder();
        for (String line : bare.split("\n")) {
            Matcher head = Pattern.compile("^ {4,8}(?:public|private) (?:static )?\\w+ (\\w+)\\(.*\\{$").matcher(line);
            if (head.find()) {
                name = head.group(1);
                body.setLength(0);
            } else if (name != null && line.matches(" {4}(?: {4})?\\}")) {
                c.due("only one method has the name " + name, bodies.put(name, body.toString()), null);
                name = null;
            } else {
                body.append(line).append('\n');
            }
        }
        return bodies;
    }

    private static int depth(Map<String, String> bodies, String name, int above) {
        int most = 1;
        if (above > 20) {
            return most;
        }
        Matcher call = Pattern.compile("\\b(\\w+)\\(").matcher(bodies.get(name));
        while (call.find()) {
            if (bodies.containsKey(call.group(1))) {
                most = Math.max(most, 1 + depth(bodies, call.group(1), above + 1));
            }
        }
        return most;
    }

    private static void deepest(Check c, String bare) {
        Map<String, String> bodies = bodies(c, bare);
        c.due("methods are found", bodies.containsKey("digest") && bodies.containsKey("put"), true);
        for (String name : bodies.keySet()) {
            int depth = depth(bodies, name, 0);
            c.due(name + " calls at most eight deep, itself and all: " + depth, depth <= 8, true);
        }
    }

    public static void main(String[] args) throws Exception {
        Check c = new Check("RulesTest");
        byte[] bytes = Files.readAllBytes(Path.of(args[0]));
        for (byte b : bytes) {
            if (b < 0) {
                c.due("a sign that is not 0 to 127", b, "none");
            }
        }
        String source = new String(bytes, StandardCharsets.US_ASCII);
        String bare = bare(source);
        for (String word : BANNED) {
            Matcher m = Pattern.compile(word).matcher(bare);
            c.due("in the class: " + word, m.find(), false);
        }
        longest(c, source);
        deepest(c, bare);
        Matcher classes = Pattern.compile("\\bclass\\b").matcher(bare);
        c.due("at most twelve classes", classes.results().count() <= 12, true);
        c.due("no public member in the classes inside", bare.split("\n {8}public ").length, 1);
        // A row is read and written by at and put alone; the ring of saved states by its own two places.
        Matcher index = Pattern.compile("\\b(\\w+)\\[\\w+\\]").matcher(bare);
        StringBuilder rows = new StringBuilder();
        while (index.find()) {
            if (!index.group(1).equals("int") && !index.group().matches(".*\\[[A-Z_]+\\]")) {
                rows.append(index.group()).append(' ');
            }
        }
        c.due("indices in brackets", rows.toString(), "row[index] row[index] ring[i] ring[index] ");
        c.end();
    }
}
