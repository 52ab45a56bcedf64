import java.io.ByteArrayOutputStream;
import java.io.File;
import java.io.IOException;
import java.nio.file.Files;
import java.nio.file.Path;
import java.util.ArrayList;
import java.util.Comparator;
import java.util.List;
import java.util.concurrent.ExecutionException;
import java.util.concurrent.ExecutorService;
import java.util.concurrent.Executors;
import java.util.concurrent.Future;
import java.util.concurrent.TimeUnit;
import java.util.regex.Matcher;
import java.util.regex.Pattern;
import javax.tools.JavaCompiler;
import javax.tools.ToolProvider;

/**
 * Breaks JuneVote.java in one place after another (a number one more or less, a relation the other way, a statement left
 * out) and prints the breaks that no test notices. Each of those is either without meaning (a guard that is never
 * needed) or wants a test. Not run by .ci/run, as it takes minutes.
 *
 * java -cp OUT Mutants OUT TextEdgesTest,TermEdgesTest,CallEdgesTest [FIRST_LINE LAST_LINE]
 */
public final class Mutants {
    private static final Path SOURCE = Path.of("src/main/java/JuneVote.java");
    private static final int LONGEST_SECONDS = 20;
    private static final Pattern TEXT_OR_COMMENT =
        Pattern.compile("(?s)/\\*.*?\\*/|//[^\n]*|\"[^\"\n]*\"|'[^']'");
    /** What is looked for, and what is put in its place. */
    private static final String[][] BREAKS = {
        {" <= ", " < "}, {" >= ", " > "}, {" < ", " <= "}, {" > ", " >= "}, {" == ", " != "}, {" != ", " == "},
        {" && ", " || "}, {" \\|\\| ", " && "}, {" \\+ ", " - "}, {" - ", " + "}, {" \\* ", " + "}, {" >>> ", " << "},
        {" \\+= ", " -= "}, {" \\+= ", " = "}, {" -= ", " += "}, {"(?<=[ (])!(?=[a-z])", ""},
        {"\\btrue\\b", "false"}, {"\\bfalse\\b", "true"}, {"\\bNONE\\b", "(NONE - 5)"}, {"\\bGAP\\b", "(GAP - 5)"},
        {"\\bREFUSED\\b", "(REFUSED - 5)"}, {"Math\\.max", "Math.min"}, {"Math\\.min", "Math.max"},
        {"(?m)^ +[\\w.\\[\\]]+(\\([^;]*\\)| [-+*|]?= [^;]*|\\+\\+|--);$", ""}, {"(?m)^ +break;$", ""}};
    private static final Pattern NUMBER = Pattern.compile("(?<![\\w.])\\d+(?![\\w.])");

    private final String source;
    private final String classes;
    private final String[] tests;

    /** The source with one stretch of it put in another way. */
    private record Mutant(int line, int from, int to, String instead) {
    }

    private Mutants(String source, String classes, String[] tests) {
        this.source = source;
        this.classes = classes;
        this.tests = tests;
    }

    public static void main(String[] args) throws IOException, InterruptedException, ExecutionException {
        Mutants all = new Mutants(Files.readString(SOURCE), args[0], args[1].split(","));
        int first = args.length > 3 ? Integer.parseInt(args[2]) : 1;
        int last = args.length > 3 ? Integer.parseInt(args[3]) : Integer.MAX_VALUE;
        all.tryAll(all.between(first, last));
    }

    private List<Mutant> between(int first, int last) {
        StringBuilder bare = new StringBuilder(source);
        Matcher hidden = TEXT_OR_COMMENT.matcher(source);
        while (hidden.find()) {
            for (int i = hidden.start(); i < hidden.end(); i++) {
                bare.setCharAt(i, bare.charAt(i) == '\n' ? '\n' : '\u0001');
            }
        }
        List<Mutant> found = new ArrayList<>();
        for (String[] one : BREAKS) {
            Matcher m = Pattern.compile(one[0]).matcher(bare);
            while (m.find()) {
                found.add(new Mutant(lineOf(m.start()), m.start(), m.end(), one[1]));
            }
        }
        Matcher m = NUMBER.matcher(bare);
        while (m.find()) {
            int number = Integer.parseInt(m.group());
            found.add(new Mutant(lineOf(m.start()), m.start(), m.end(), Integer.toString(number + 1)));
            found.add(new Mutant(lineOf(m.start()), m.start(), m.end(), Integer.toString(number - 1)));
        }
        found.removeIf(x -> x.line < first || x.line > last);
        found.sort(Comparator.comparingInt(Mutant::line));
        return found;
    }

    private int lineOf(int at) {
        return (int) source.substring(0, at).chars().filter(c -> c == '\n').count() + 1;
    }

    private void tryAll(List<Mutant> mutants) throws InterruptedException, ExecutionException {
        ExecutorService pool = Executors.newFixedThreadPool(Runtime.getRuntime().availableProcessors());
        List<Future<Boolean>> noticed = new ArrayList<>();
        for (Mutant mutant : mutants) {
            noticed.add(pool.submit(() -> isNoticed(mutant)));
        }
        int lived = 0;
        for (int i = 0; i < mutants.size(); i++) {
            if (!noticed.get(i).get()) {
                lived++;
                System.out.println(told(mutants.get(i)));
            }
        }
        pool.shutdown();
        System.out.println(mutants.size() + " breaks, " + lived + " not noticed");
    }

    private String told(Mutant x) {
        int begin = source.lastIndexOf('\n', x.from) + 1;
        int end = source.indexOf('\n', x.to);
        return x.line + ": " + source.substring(Math.min(begin, x.from), x.from).strip() + "{"
            + source.substring(x.from, x.to).strip() + " -> " + x.instead.strip() + "}" + source.substring(x.to, end);
    }

    /** Also true if it can't be compiled, or runs too long. */
    private boolean isNoticed(Mutant x) throws IOException, InterruptedException {
        Path dir = Files.createTempDirectory("mutant");
        try {
            Path file = dir.resolve("JuneVote.java");
            Files.writeString(file, source.substring(0, x.from) + x.instead + source.substring(x.to));
            JavaCompiler compiler = ToolProvider.getSystemJavaCompiler();
            ByteArrayOutputStream said = new ByteArrayOutputStream();
            if (compiler.run(null, said, said, "-nowarn", "-d", dir.toString(), file.toString()) != 0) {
                return true;
            }
            for (String test : tests) {
                if (!passes(dir, test)) {
                    return true;
                }
            }
            return false;
        } finally {
            for (File file : dir.toFile().listFiles()) {
                Files.delete(file.toPath());
            }
            Files.delete(dir);
        }
    }

    private boolean passes(Path dir, String test) throws IOException, InterruptedException {
        Process process = new ProcessBuilder("java", "-XX:TieredStopAtLevel=1", "-XX:+UseSerialGC", "-cp",
            dir + File.pathSeparator + classes, test)
            .redirectErrorStream(true).redirectOutput(ProcessBuilder.Redirect.DISCARD).start();
        if (!process.waitFor(LONGEST_SECONDS, TimeUnit.SECONDS)) {
            process.destroyForcibly();
            return false;
        }
        return process.exitValue() == 0;
    }
}
