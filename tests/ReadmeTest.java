import java.io.ByteArrayOutputStream;
import java.io.IOException;
import java.io.PrintStream;
import java.lang.reflect.Method;
import java.lang.reflect.Modifier;
import java.net.URL;
import java.net.URLClassLoader;
import java.nio.file.Files;
import java.nio.file.Path;
import java.util.ArrayList;
import java.util.Comparator;
import java.util.List;
import java.util.regex.Matcher;
import java.util.regex.Pattern;
import java.util.stream.Collectors;
import java.util.stream.Stream;
import javax.tools.JavaCompiler;
import javax.tools.ToolProvider;

/** README.md's example compiles and prints what stands behind its calls; what the page names is there. */
public final class ReadmeTest {
    private static final Pattern BLOCK = Pattern.compile("```java\n(.*?)```", Pattern.DOTALL);
    private static final Pattern CALL = Pattern.compile("^ +print\\((.*)\\); +// ([^:\n]+)(:.*)?$");
    private static final Pattern LINE_TOLD = Pattern.compile("(?m)^\\| `([^`]+;)` \\|");
    private static final Pattern COMMAND = Pattern.compile("(?m)^ {4}java -cp out (\\w+)");

    private static int asked;
    private static int wrong;

    private ReadmeTest() {
    }

    public static void main(String[] args) throws Exception {
        String page = Files.readString(Path.of("README.md"));
        exampleAnswersAsItSays(page);
        linesTold(page);
        testsNamed(page);
        System.out.println(asked + " looked at, " + wrong + " not as the page says");
        if (wrong > 0) {
            System.exit(1);
        }
    }

    private static void due(String what, String got, String want) {
        asked++;
        if (!got.equals(want)) {
            wrong++;
            System.out.println(what + ": " + got + ", the page says " + want);
        }
    }

    private static void exampleAnswersAsItSays(String page) throws Exception {
        Matcher block = BLOCK.matcher(page);
        due("an example", block.find() + "", "true");
        String example = block.group(1);
        due("one block of Java only", block.find() + "", "false");
        List<String> calls = new ArrayList<>();
        List<String> answers = new ArrayList<>();
        for (String line : example.split("\n")) {
            Matcher call = CALL.matcher(line);
            if (call.find()) {
                calls.add(call.group(1));
                answers.add(call.group(2).strip());
            }
        }
        due("calls with an answer", calls.size() > 0 ? "some" : "none", "some");
        due("prints without an answer", example.split("\n +print\\(").length - 1 - calls.size() + "", "0");
        List<String> printed = printedBy(example);
        due("lines printed", printed.size() + "", answers.size() + "");
        for (int i = 0; i < printed.size() && i < answers.size(); i++) {
            due(calls.get(i), printed.get(i), answers.get(i));
        }
        everyMethodIsCalled(example);
    }

    private static void everyMethodIsCalled(String example) {
        for (Method method : JuneVote.class.getDeclaredMethods()) {
            if (Modifier.isPublic(method.getModifiers())) {
                due("the example calls " + method.getName(), example.contains("x." + method.getName() + "(") + "", "true");
            }
        }
    }

    /** Compiles the example as a file of its own beside the class, as the page tells, and runs it. */
    private static List<String> printedBy(String example) throws Exception {
        Path room = Files.createTempDirectory("readme");
        PrintStream before = System.out;
        ByteArrayOutputStream caught = new ByteArrayOutputStream();
        try {
            Path file = Files.writeString(room.resolve("Example.java"), example);
            JavaCompiler compiler = ToolProvider.getSystemJavaCompiler();
            int code = compiler.run(null, null, null, "-Xlint:all", "-Werror", "-d", room.toString(),
                "src/main/java/JuneVote.java", file.toString());
            due("javac's code", code + "", "0");
            try (URLClassLoader loader = new URLClassLoader(new URL[] {room.toUri().toURL()}, null)) {
                System.setOut(new PrintStream(caught, true));
                loader.loadClass("Example").getMethod("main", String[].class).invoke(null, (Object) new String[0]);
            }
        } finally {
            System.setOut(before);
            remove(room);
        }
        return caught.toString().lines().collect(Collectors.toList());
    }

    private static void remove(Path room) throws IOException {
        try (Stream<Path> all = Files.walk(room)) {
            for (Path path : all.sorted(Comparator.reverseOrder()).collect(Collectors.toList())) {
                Files.delete(path);
            }
        }
    }

    /** Each line of the table is one, behind what it needs told ahead. */
    private static void linesTold(String page) {
        String ahead = "month june from 1 to 2; person ann votes 1; person bob votes 1;";
        Matcher line = LINE_TOLD.matcher(page);
        int lines = 0;
        while (line.find()) {
            String text = line.group(1);
            boolean alone = !text.startsWith("due");
            JuneVote x = new JuneVote();
            Typed.feed(x, alone ? text : ahead + text);
            due(text, x.republic() == JuneVote.NONE ? "fault " + x.fault(0) : "a line", "a line");
            lines++;
        }
        due("lines in the table", lines + "", "7");
    }

    /** Each file under tests is named on the page, and each class that it has run is there. */
    private static void testsNamed(String page) throws IOException {
        try (Stream<Path> all = Files.list(Path.of("tests"))) {
            for (Path path : all.sorted().collect(Collectors.toList())) {
                String name = path.getFileName().toString().replace(".java", "");
                due(name + " is named", page.contains("`" + name + "`") + "", "true");
            }
        }
        Matcher command = COMMAND.matcher(page);
        while (command.find()) {
            String name = command.group(1);
            boolean there = name.equals("Example") || Files.exists(Path.of("tests", name + ".java"));
            due(name + " is there", there + "", "true");
        }
    }
}
