import java.io.File;
import java.io.IOException;
import java.lang.reflect.Method;
import java.lang.reflect.Modifier;
import java.lang.reflect.Parameter;
import java.nio.file.Files;
import java.nio.file.Path;
import java.util.ArrayList;
import java.util.LinkedHashMap;
import java.util.List;
import java.util.Map;
import java.util.Set;
import java.util.TreeSet;
import java.util.regex.Matcher;
import java.util.regex.Pattern;
import java.util.stream.Stream;

// What README.md shows is run: its lines of Java, its table of calls, its lines of shell.
public final class ReadmeShows {

    private static final Path README = Path.of("README.md"), DOCUMENT = Path.of("../shared/DOC.md");
    private static final String ALL_TESTS = ".ci/run";
    private static final Pattern ANSWERED = Pattern.compile("(\\S.*);\\s+// ([^:]+)(: .*)?");
    private static final Pattern ROW = Pattern.compile("\\| `([^`]*\\([^`]*\\))` \\|([^|]*)\\|([^|]*)\\|");
    private static final Pattern REFUSAL = Pattern.compile("\\b(BAD|NOT|FULL|NULL|INDEX|CAST|STORE|SIZE)\\b");

    private static int shown = 0;
    private static int wrong = 0;

    private static void hold(boolean holds, String what) {
        shown++;
        if (holds) return;
        wrong++;
        System.out.println(what);
    }

    /** The blocks of the page that are of a language. */
    private static List<String> blocks(String page, String language) {
        List<String> found = new ArrayList<>();
        Matcher m = Pattern.compile("(?ms)^```" + language + "\\n(.*?)^```$").matcher(page);
        while (m.find()) found.add(m.group(1));
        return found;
    }

    // ---- lines of Java

    /** One program of all lines, in which each call that shows an answer is held against it. */
    private static String program(List<String> blocks) {
        StringBuilder text = new StringBuilder("public class Shown {\n    static int wrong = 0;\n"
            + "    static void due(String line, long got, long want) {\n        if (got == want) return;\n        wrong++;\n"
            + "        System.out.println(line + \" .. but it answered \" + got);\n    }\n"
            + "    public static void main(String[] args) {\n");
        for (String block : blocks) for (String line : block.split("\n")) text.append("        ").append(held(line)).append('\n');
        return text.append("        if (wrong != 0) System.exit(1);\n    }\n}\n").toString();
    }

    private static String held(String line) {
        Matcher m = ANSWERED.matcher(line);
        if (m.matches()) {
            shown++;
            return "due(\"" + line.replace("\"", "\\\"") + "\", " + m.group(1) + ", " + m.group(2) + ");";
        }
        hold(!line.startsWith("x.") && !line.contains("//"), "README.md does not show what this answers: " + line);
        return line;
    }

    /** What the lines show, as they stand there and with the answers held. */
    private static void runJava(List<String> blocks, Path folder) throws Exception {
        hold(!blocks.isEmpty(), "README.md shows no Java");
        Path source = folder.resolve("Shown.java");
        Files.writeString(source, program(blocks));
        int compiled = run(folder, "javac", "-cp", System.getProperty("java.class.path"), "-d", folder.toString(), source.toString());
        hold(compiled == 0, "the lines of Java in README.md do not compile");
        if (compiled != 0) return;
        String path = System.getProperty("java.class.path") + File.pathSeparator + folder;
        hold(run(folder, "java", "-cp", path, "Shown") == 0, "the lines of Java in README.md answer otherwise");
    }

    private static int run(Path folder, String... words) throws Exception {
        Process process = new ProcessBuilder(words).redirectErrorStream(true).redirectOutput(folder.resolve("said").toFile()).start();
        process.getOutputStream().close();
        int code = process.waitFor();
        if (code != 0) System.out.print(Files.readString(folder.resolve("said")));
        return code;
    }

    // ---- the table of calls

    /** Of each call of the page's table its refusals, in order. */
    private static Map<String, List<String>> rows(String page) {
        Map<String, List<String>> rows = new LinkedHashMap<>();
        Matcher m = ROW.matcher(page);
        while (m.find()) {
            hold(!m.group(2).isBlank(), "README.md does not say what this answers: " + m.group(1));
            rows.put(m.group(1), refusals(m.group(3)));
        }
        return rows;
    }

    private static List<String> refusals(String text) {
        List<String> found = new ArrayList<>();
        Matcher m = REFUSAL.matcher(text);
        while (m.find()) if (!found.contains(m.group())) found.add(m.group());
        return found;
    }

    /** Of each call of the document's promises its refusals, in order. */
    private static Map<String, List<String>> promised(String document) {
        Map<String, List<String>> promised = new LinkedHashMap<>();
        Matcher m = Pattern.compile("(?m)^## Promise \\d+:.*\\n\\n`([^`]*)`: (.*)$").matcher(document);
        while (m.find()) promised.put(m.group(1), refusals(m.group(2)));
        return promised;
    }

    private static Set<String> calls() {
        Set<String> calls = new TreeSet<>();
        calls.add("WordsKnown()");
        for (Method m : WordsKnown.class.getDeclaredMethods()) {
            if (!Modifier.isPublic(m.getModifiers())) continue;
            List<String> types = new ArrayList<>();
            for (Parameter p : m.getParameters()) types.add(p.getType().getName());
            calls.add(m.getReturnType() + " " + m.getName() + "(" + String.join(", ", types) + ")");
        }
        return calls;
    }

    private static void checkTable(String page) throws IOException {
        Map<String, List<String>> rows = rows(page);
        Set<String> bare = new TreeSet<>();
        for (String call : rows.keySet()) bare.add(call.replaceAll("(?<=[(,])( ?int) \\w+", "$1"));
        hold(bare.equals(calls()), "README.md tells the calls " + bare + ", the class has " + calls());
        Map<String, List<String>> promised = promised(Files.readString(DOCUMENT));
        hold(promised.size() == 33, "the document promises " + promised.size() + " calls");
        hold(rows.keySet().equals(promised.keySet()), "README.md tells other calls than the document: " + rows.keySet());
        for (String call : promised.keySet()) {
            hold(promised.get(call).equals(rows.get(call)), call + ": README.md tells " + rows.get(call) + ", the document " + promised.get(call));
        }
    }

    // ---- lines of shell, names of files

    private static void runShell(List<String> blocks, Path folder) throws Exception {
        hold(blocks.contains(ALL_TESTS + "\n"), "README.md does not show how to run all tests");
        hold(Files.isExecutable(Path.of(ALL_TESTS)), ALL_TESTS + " can't be run");
        for (String block : blocks) {
            // All tests are what runs this one.
            if (block.contains(ALL_TESTS)) continue;
            hold(run(folder, "sh", "-e", "-c", block) == 0, "these lines of shell in README.md fail:\n" + block);
        }
    }

    private static void checkNames(String page) throws IOException {
        Matcher m = Pattern.compile("`((?:\\.\\./shared|src|\\.ci)(?:/[\\w.]+)*)`").matcher(page);
        while (m.find()) hold(Files.exists(Path.of(m.group(1))), "README.md names " + m.group(1) + ", which is not there");
        try (Stream<Path> tests = Files.list(Path.of("src/test/java"))) {
            for (Path test : (Iterable<Path>) tests::iterator) {
                String name = test.getFileName().toString().replace(".java", "");
                hold(page.contains("`" + name + "`"), "README.md does not name the test " + name);
            }
        }
    }

    private static void remove(Path folder) throws IOException {
        try (Stream<Path> files = Files.list(folder)) {
            for (Path file : (Iterable<Path>) files::iterator) Files.delete(file);
        }
        Files.delete(folder);
    }

    public static void main(String[] args) throws Exception {
        String page = Files.readString(README);
        Path folder = Files.createTempDirectory("shown");
        runJava(blocks(page, "java"), folder);
        runShell(blocks(page, "sh"), folder);
        remove(folder);
        checkTable(page);
        checkNames(page);
        System.out.println(shown + " things shown, " + wrong + " wrong");
        if (wrong != 0) System.exit(1);
    }
}
