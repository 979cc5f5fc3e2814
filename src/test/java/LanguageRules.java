import java.lang.reflect.Field;
import java.lang.reflect.Method;
import java.lang.reflect.Modifier;
import java.nio.file.Files;
import java.nio.file.Path;
import java.util.ArrayList;
import java.util.List;
import java.util.Set;
import java.util.TreeSet;
import java.util.regex.Matcher;
import java.util.regex.Pattern;

// What of ../shared/LANGUAGE.md can be seen from the class file and from the text of the class.
public final class LanguageRules {

    private static final Path SOURCE = Path.of("src/main/java/WordsKnown.java");

    private static final String FACE = "int band(int) int book() int run(int,int,int) int type(int) int wipe() int fault() "
        + "int word(int) int answer(int,int,int,int) int read(int,int,int) int asOf(int) int asked(int,int,int) "
        + "long share(int,int,int,int) long knows(int,int,int) int may(int,int,int,int) int likeliest(int,int,int) "
        + "long cover(int,int,int) int easiest(int) int ladder(int,int,int,int) int next(int) int deal(int,int) "
        + "int pair(int,int,int) long alike(int,int,int) int better(int,int) int learnt(int,int,int,int) "
        + "int sheet(int,int,int) int lose(int) int lay(int,int,int,int) int get(int,int,int) "
        + "int copy(int,int,int,int,int) int write(int,int) int count(int) long digest()";

    private static int wrong = 0;

    private static void hold(int rule, boolean holds, String what) {
        if (holds) return;
        wrong++;
        System.out.println("rule " + rule + ": " + what);
    }

    private static String sign(Method m) {
        StringBuilder types = new StringBuilder();
        for (Class<?> type : m.getParameterTypes()) types.append(types.length() == 0 ? "" : ",").append(type.getName());
        return m.getReturnType().getName() + " " + m.getName() + "(" + types + ")";
    }

    private static void checkFace(Set<String> names) {
        Set<String> due = new TreeSet<>();
        Matcher one = Pattern.compile("(int|long) (\\w+)\\([a-z,]*\\)").matcher(FACE);
        while (one.find()) {
            due.add(one.group());
            names.add(one.group(2));
        }
        Set<String> there = new TreeSet<>();
        for (Method m : WordsKnown.class.getDeclaredMethods()) {
            if (!Modifier.isPrivate(m.getModifiers())) there.add(sign(m));
            if (!Modifier.isPrivate(m.getModifiers())) hold(1, Modifier.isPublic(m.getModifiers()), m + " is not public");
        }
        hold(1, there.equals(due), "the face is " + there + ", due is " + due);
        Set<String> constants = new TreeSet<>();
        for (Field f : WordsKnown.class.getDeclaredFields()) {
            if (!Modifier.isPrivate(f.getModifiers())) constants.add(f.getName());
        }
        hold(1, constants.equals(Set.of("NONE", "BAD", "NOT", "FULL")), "constants are " + constants);
        hold(1, Modifier.isFinal(WordsKnown.class.getModifiers()), "the class is not final");
    }

    private static void checkClass(Class<?> type, Set<String> names) {
        int fields = 0;
        for (Field f : type.getDeclaredFields()) {
            if (!Modifier.isStatic(f.getModifiers())) fields++;
            else hold(5, Modifier.isFinal(f.getModifiers()) && f.getType().isPrimitive(), f + " is no constant");
        }
        hold(11, fields <= 20, type + " has " + fields + " fields");
        for (Method m : type.getDeclaredMethods()) {
            hold(11, m.getParameterCount() <= 7, m + " takes too many parameters");
            boolean named = Modifier.isPrivate(m.getModifiers()) && names.contains(m.getName());
            hold(1, !named, m + " bears the name of a public one");
        }
    }

    private static void checkText(String text) {
        String[] words = {"throw", "throws", "try", "catch", "finally", "synchronized", "assert", "double", "float", "new String",
            "Exact", "hashCode", "equals", "toString", "protected", "System.nano", "System.current", "System.exit", "System.out",
            "Random", "Thread", "Exception", "Error", "Object", "StringBuilder", "List", "volatile", "transient", "native", "var",
            "MIN_VALUE", "MAX_VALUE"};
        for (String word : words) hold(6, !Pattern.compile("\\b" + word + "\\b").matcher(text).find(), "the text has " + word);
        hold(2, !text.contains("->") && !text.contains("::"), "the text has a lambda or a method reference");
        hold(6, !Pattern.compile("static\\s*\\{").matcher(text).find(), "a static initialiser block");
        Matcher imports = Pattern.compile("\\bimport ([^;]*);").matcher(text);
        while (imports.find()) hold(4, imports.group(1).equals("java.util.Arrays"), "import " + imports.group(1));
        hold(4, !Pattern.compile("fill\\([^;]*(true|false)\\)").matcher(text).find(), "a fill over a row that is not of numbers");
        hold(9, !Pattern.compile("\\bwhile\\b").matcher(text).find(), "a while: count instead");
        hold(9, !Pattern.compile("for \\(;|;\\s*;").matcher(text).find(), "a loop without a bound");
    }

    private static void checkLengths(List<String> lines) {
        int start = -1;
        for (int i = 0; i < lines.size(); i++) {
            String line = lines.get(i);
            boolean opens = line.matches("(    |        )[a-zA-Z].*\\) \\{") && !line.trim().matches("(if|for|switch|else).*");
            if (opens) start = i;
            if (start >= 0 && line.matches("(    |        )\\}")) {
                hold(11, i - start < 60, "the method at line " + (start + 1) + " is long");
                start = -1;
            }
            for (char c : line.toCharArray()) hold(4, c > 0 && c < 128, "a sign beyond 127 in line " + (i + 1));
        }
    }

    public static void main(String[] args) throws Exception {
        Set<String> names = new TreeSet<>();
        checkFace(names);
        checkClass(WordsKnown.class, names);
        List<Class<?>> inside = new ArrayList<>(List.of(WordsKnown.class.getDeclaredClasses()));
        hold(11, inside.size() <= 11, inside.size() + " classes inside");
        for (Class<?> type : inside) {
            hold(2, Modifier.isStatic(type.getModifiers()) && !Modifier.isPublic(type.getModifiers()), type + " is not static");
            checkClass(type, names);
        }
        String text = Files.readString(SOURCE);
        checkText(text.replaceAll("(?s)/\\*.*?\\*/", " ").replaceAll("//[^\n]*", " "));
        checkLengths(Files.readAllLines(SOURCE));
        System.out.println(wrong == 0 ? "the rules that can be seen are kept" : wrong + " rules are broken");
        if (wrong != 0) System.exit(1);
    }
}
