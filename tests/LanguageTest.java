import java.io.IOException;
import java.nio.file.Files;
import java.nio.file.Path;
import java.util.ArrayList;
import java.util.HashMap;
import java.util.HashSet;
import java.util.LinkedHashMap;
import java.util.List;
import java.util.Map;
import java.util.Set;
import java.util.TreeSet;
import java.util.regex.Matcher;
import java.util.regex.Pattern;

/** Reads JuneVote.java and looks for what LANGUAGE.md rules out, as far as a reader of its text can tell. */
public final class LanguageTest {
    private static final String[] RULED_OUT = {"throw", "throws", "try", "catch", "finally", "synchronized", "assert",
        "import", "package", "protected", "volatile", "native", "System.out", "Math.random", "var ", "->", "::",
        "@", "Exact(", "while (true)", "for (;;)", ".equals(", "hashCode", "toString", "Object", "static {"};
    private static final String[] PUBLIC = ("feed end republic fault person due length date number drift may worth votes "
        + "counted run decree forgive endow undo redo turned least bribe rest plan span skew again ahead net lies ledger "
        + "untell later lengths known image back about").split(" ");
    private static final Pattern METHOD = Pattern.compile(
        "^( {4}| {8})((?:(?:public|private|static|final) )*)([\\w\\[\\]]+ )?(\\w+)\\(([^)]*)\\) \\{$");
    private static final Pattern CALL = Pattern.compile("\\b(\\w+)\\(");
    private static final int MOST_LINES = 60;
    private static final int MOST_PARAMETERS = 7;
    private static final int MOST_CLASSES = 12;
    private static final int MOST_FIELDS = 20;
    private static final int DEEPEST = 8;

    private static int wrong;

    private LanguageTest() {
    }

    private static void complain(String what) {
        wrong++;
        System.out.println(what);
    }

    public static void main(String[] args) throws IOException {
        String source = Files.readString(Path.of(args.length > 0 ? args[0] : "src/main/java/JuneVote.java"));
        String bare = withoutTextsAndComments(source);
        for (int i = 0; i < source.length(); i++) {
            if (source.charAt(i) > 126) {
                complain("a sign above 126 at " + i);
            }
        }
        for (String ruled : RULED_OUT) {
            String pattern = ruled.matches("\\w+") ? "\\b" + ruled + "\\b" : Pattern.quote(ruled);
            if (Pattern.compile(pattern).matcher(bare).find()) {
                complain("ruled out: " + ruled);
            }
        }
        classesAndFields(bare);
        Map<String, List<String>> methods = methods(bare);
        publicFace(bare);
        depth(methods);
        System.out.println(wrong == 0 ? "the language is kept" : wrong + " rules are not kept");
        if (wrong > 0) {
            System.exit(1);
        }
    }

    private static String withoutTextsAndComments(String source) {
        return source.replaceAll("(?s)/\\*.*?\\*/", "").replaceAll("//[^\n]*", "")
            .replaceAll("\"[^\"\n]*\"", "\"\"").replaceAll("'[^']'", "'x'");
    }

    private static void classesAndFields(String bare) {
        int classes = 0;
        int fields = 0;
        String name = "";
        for (String line : bare.split("\n")) {
            Matcher m = Pattern.compile("^( *)(public|private static) final class (\\w+) \\{$").matcher(line);
            if (m.find()) {
                classes++;
                fields = 0;
                name = m.group(3);
            } else if (line.contains(" class ")) {
                complain("a class of another form: " + line);
            }
            boolean field = line.matches("^( {4}| {8})(private |final )*(?!return)[\\w\\[\\]]+ \\w+;$");
            if (field) {
                fields++;
                if (fields == MOST_FIELDS + 1) {
                    complain("too many fields: " + name);
                }
            }
            if (line.matches("^ +(private |public )?static .*;$") && !line.matches(".* static final (int|long|boolean|char|String) .*")) {
                complain("a static field: " + line);
            }
        }
        if (classes > MOST_CLASSES) {
            complain(classes + " classes");
        }
    }

    /** The bodies of the methods by name; methods of one name in several classes are taken together. */
    private static Map<String, List<String>> methods(String bare) {
        Map<String, List<String>> bodies = new LinkedHashMap<>();
        String[] lines = bare.split("\n");
        for (int i = 0; i < lines.length; i++) {
            Matcher m = METHOD.matcher(lines[i]);
            if (m.find()) {
                int behind = i + 1;
                while (!lines[behind].equals(m.group(1) + "}")) {
                    behind++;
                }
                if (behind - i > MOST_LINES) {
                    complain("too long: " + m.group(4));
                }
                if (m.group(5).split(",").length > MOST_PARAMETERS) {
                    complain("too many parameters: " + m.group(4));
                }
                boolean ofTheFace = m.group(2).contains("public");
                if (!ofTheFace && List.of(PUBLIC).contains(m.group(4))) {
                    complain("bears a public name: " + m.group(4));
                }
                if (m.group(1).length() == 4 && !ofTheFace && !m.group(2).contains("private")) {
                    complain("neither public nor private: " + m.group(4));
                }
                StringBuilder body = new StringBuilder();
                for (int j = i + 1; j < behind; j++) {
                    body.append(lines[j]).append('\n');
                }
                bodies.computeIfAbsent(m.group(4), k -> new ArrayList<>()).add(body.toString());
            }
        }
        return bodies;
    }

    private static void publicFace(String bare) {
        Set<String> found = new TreeSet<>();
        Matcher m = Pattern.compile("(?m)^    public (?:int|boolean) (\\w+)\\(").matcher(bare);
        while (m.find()) {
            found.add(m.group(1));
        }
        if (!found.equals(new TreeSet<>(List.of(PUBLIC)))) {
            complain("the face is not the document's: " + found);
        }
    }

    /** The longest way down by calls; those that call one another count as one. */
    private static void depth(Map<String, List<String>> methods) {
        Map<String, Set<String>> calls = new HashMap<>();
        methods.forEach((name, bodies) -> {
            Set<String> called = new HashSet<>();
            for (String body : bodies) {
                Matcher m = CALL.matcher(body);
                while (m.find()) {
                    if (methods.containsKey(m.group(1))) {
                        called.add(m.group(1));
                    }
                }
            }
            calls.put(name, called);
        });
        Map<String, Set<String>> reach = new HashMap<>();
        for (String name : methods.keySet()) {
            Set<String> seen = new HashSet<>();
            List<String> open = new ArrayList<>(calls.get(name));
            while (!open.isEmpty()) {
                String next = open.remove(open.size() - 1);
                if (seen.add(next)) {
                    open.addAll(calls.get(next));
                }
            }
            reach.put(name, seen);
        }
        for (String name : PUBLIC) {
            List<String> way = longest(name, calls, reach);
            if (way.size() > DEEPEST) {
                complain("calls " + way.size() + " deep: " + way);
            }
        }
    }

    private static List<String> longest(String name, Map<String, Set<String>> calls, Map<String, Set<String>> reach) {
        // All that can be called from here and can call this again stand for one level.
        Set<String> together = new HashSet<>();
        together.add(name);
        for (String other : reach.get(name)) {
            if (reach.get(other).contains(name)) {
                together.add(other);
            }
        }
        List<String> best = new ArrayList<>();
        for (String one : together) {
            for (String next : calls.get(one)) {
                if (!together.contains(next)) {
                    List<String> way = longest(next, calls, reach);
                    if (way.size() > best.size()) {
                        best = way;
                    }
                }
            }
        }
        List<String> way = new ArrayList<>();
        way.add(name);
        way.addAll(best);
        return way;
    }
}
