import java.io.IOException;
import java.lang.reflect.Constructor;
import java.lang.reflect.Field;
import java.lang.reflect.Method;
import java.lang.reflect.Modifier;
import java.nio.file.Files;
import java.nio.file.Path;
import java.util.ArrayList;
import java.util.Arrays;
import java.util.List;
import java.util.TreeSet;
import java.util.regex.Matcher;
import java.util.regex.Pattern;

/** Holds the class against the document's face and against those rules of LANGUAGE.md that show. */
public final class RulesTest {
    private static int wrong = 0;

    public static void main(String[] args) throws IOException {
        Path root = Path.of(args.length > 0 ? args[0] : ".");
        String source = Files.readString(root.resolve("src/main/java/SparseHall.java"));
        face(Files.readString(root.resolve("../shared/DOC.md")));
        members();
        words(bare(source));
        lengths(source);
        System.out.println("RulesTest: " + wrong + " wrong");
        System.exit(wrong == 0 ? 0 : 1);
    }

    private static void fail(String what) {
        wrong++;
        System.out.println("LANGUAGE.md or the face: " + what);
    }

    private static List<Class<?>> classes() {
        List<Class<?>> all = new ArrayList<>(List.of(SparseHall.class));
        all.addAll(Arrays.asList(SparseHall.class.getDeclaredClasses()));
        return all;
    }

    /** The document's face and the class's own, each line brought to one form. */
    private static void face(String document) {
        TreeSet<String> due = new TreeSet<>();
        Matcher line = Pattern.compile("^    public (.*);$", Pattern.MULTILINE).matcher(document);
        while (line.find()) {
            due.add(line.group(1).replaceAll(" [a-z]\\w*([,)])", "$1"));
        }
        TreeSet<String> own = new TreeSet<>();
        for (Constructor<?> constructor : SparseHall.class.getConstructors()) {
            own.add("SparseHall(" + names(constructor.getParameterTypes()) + ")");
        }
        for (Method method : SparseHall.class.getDeclaredMethods()) {
            if (Modifier.isPublic(method.getModifiers())) {
                String thrown = names(method.getExceptionTypes());
                own.add(method.getReturnType().getSimpleName() + " " + method.getName() + "("
                        + names(method.getParameterTypes()) + ")" + (thrown.isEmpty() ? "" : " throws " + thrown));
            }
        }
        if (due.size() != 44 || !due.equals(own)) {
            TreeSet<String> missing = new TreeSet<>(due);
            missing.removeAll(own);
            own.removeAll(due);
            fail("missing " + missing + ", too many " + own);
        }
    }

    private static String names(Class<?>[] types) {
        StringBuilder names = new StringBuilder();
        for (Class<?> type : types) {
            names.append(names.length() == 0 ? "" : ", ").append(type.getSimpleName());
        }
        return names.toString();
    }

    private static void members() {
        TreeSet<String> open = new TreeSet<>();
        for (Method method : SparseHall.class.getMethods()) {
            if (method.getDeclaringClass() == SparseHall.class) {
                open.add(method.getName());
            }
        }
        if (classes().size() > 12) {
            fail("rule 11: " + classes().size() + " classes");
        }
        if (!Modifier.isFinal(SparseHall.class.getModifiers())) {
            fail("rule 1: the class is not final");
        }
        for (Class<?> type : classes()) {
            boolean isOuter = type == SparseHall.class;
            if (!isOuter && (!Modifier.isStatic(type.getModifiers()) || Modifier.isPublic(type.getModifiers()))) {
                fail("rule 1: " + type);
            }
            int fields = 0;
            for (Field field : type.getDeclaredFields()) {
                boolean isStatic = Modifier.isStatic(field.getModifiers());
                fields += isStatic ? 0 : 1;
                if (isStatic && !Modifier.isFinal(field.getModifiers())) {
                    fail("rule 5: " + field);
                }
                if (isOuter && !Modifier.isPrivate(field.getModifiers())) {
                    fail("rule 1: " + field);
                }
            }
            if (fields > 20) {
                fail("rule 11: " + type + " has " + fields + " fields");
            }
            for (Method method : type.getDeclaredMethods()) {
                boolean isOpen = isOuter && Modifier.isPublic(method.getModifiers());
                if (!isOpen && open.contains(method.getName())) {
                    fail("rule 1: " + method + " bears the name of a public one");
                }
                if (isOuter && !isOpen && !Modifier.isPrivate(method.getModifiers())) {
                    fail("rule 1: " + method);
                }
                if (method.getParameterCount() > 7) {
                    fail("rule 11: " + method);
                }
            }
        }
    }

    /** The source without comments and texts. */
    private static String bare(String source) {
        return source.replaceAll("(?s)/\\*.*?\\*/", " ").replaceAll("//[^\n]*", " ").replaceAll("'.'", "' '");
    }

    private static void words(String code) {
        for (String line : code.split("\n")) {
            if (line.startsWith("import") && !line.equals("import java.util.NoSuchElementException;")) {
                fail("rule 4: " + line);
            }
        }
        String[] never = {"\\bcatch\\b", "\\btry\\b", "\\bfinally\\b", "\\bsynchronized\\b", "\\bassert\\b",
            "->", "::", "\\bSystem\\b", "\\bString\\b", "\"", "Exact\\(", "\\bThread\\b", "\\bpackage\\b",
            "static \\{", "\\bgoto\\b", "\\binstanceof\\b", "MIN_VALUE", "MAX_VALUE", "\\bvar\\b",
            "while \\(true\\)", "for \\(;;"};
        for (String word : never) {
            Matcher found = Pattern.compile(word).matcher(code);
            if (found.find()) {
                fail("not in this class: " + found.group());
            }
        }
        Matcher call = Pattern.compile("\\b(Math|Integer|Long)\\.(\\w+)").matcher(code);
        TreeSet<String> library = new TreeSet<>(List.of("Math.abs", "Math.max", "Math.min", "Integer.bitCount"));
        while (call.find()) {
            if (!library.contains(call.group())) {
                fail("rule 4: " + call.group());
            }
        }
        Matcher made = Pattern.compile("\\bnew (\\w+)\\(").matcher(code);
        TreeSet<String> own = new TreeSet<>(List.of("IllegalStateException", "IllegalArgumentException",
                "IndexOutOfBoundsException", "ArithmeticException", "UnsupportedOperationException",
                "NoSuchElementException"));
        for (Class<?> type : classes()) {
            own.add(type.getSimpleName());
        }
        while (made.find()) {
            if (!own.contains(made.group(1))) {
                fail("rule 4: new " + made.group(1));
            }
        }
        for (char sign : code.toCharArray()) {
            if (sign > 126) {
                fail("rule 4: a sign beyond 127");
            }
        }
    }

    /** A method begins with a line that ends with a brace and ends with a brace as far in. */
    private static void lengths(String source) {
        String[] lines = source.split("\n");
        Pattern head = Pattern.compile("^(    |        )(?!private static final class|/|\\*|    )(\\S.*\\)) .*\\{$|^(    |        )(\\S.*\\)) \\{$");
        for (int i = 0; i < lines.length; i++) {
            if (!head.matcher(lines[i]).matches() || lines[i].startsWith("         ")) {
                continue;
            }
            String close = lines[i].replaceAll("^( *).*", "$1}");
            int end = i;
            while (end < lines.length && !lines[end].equals(close)) {
                end++;
            }
            if (end - i > 60) {
                fail("rule 11: line " + (i + 1) + " begins a method of " + (end - i) + " lines");
            }
        }
        for (int i = 0; i < lines.length; i++) {
            if (lines[i].length() > 120) {
                fail("line " + (i + 1) + " is long");
            }
        }
    }
}
