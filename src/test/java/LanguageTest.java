import java.io.IOException;
import java.nio.file.Files;
import java.nio.file.Path;
import java.util.ArrayList;
import java.util.HashMap;
import java.util.List;
import java.util.Map;
import java.util.Set;
import java.util.TreeSet;
import java.util.regex.Matcher;
import java.util.regex.Pattern;

/**
 * What ../shared/LANGUAGE.md asks of the source and can be counted in its text; the numbers are its rules'. Here and there
 * it rules out more than those do, where the class needs none of it (a catch, Arrays): let in then what is needed.
 */
public final class LanguageTest {
    private static final Path FILE = Path.of("src", "main", "java", "WaxTurns.java");
    private static final Set<String> LIBRARY = Set.of("abs", "min", "max", "bitCount", "length", "charAt");
    private static final Set<String> NO_METHODS = Set.of("if", "for", "while", "switch", "catch");
    private static final String[] RULED_OUT = {"->", "::", "Exact(", "finally", "synchronized", "assert ", "catch (",
        "try {", "@", "System.", "Arrays.", "Object", "double", "float", "while (true)", "for (;;)", ".equals(",
        "hashCode", "toString", "protected ", "static {", "import static"};
    private static final Pattern METHOD = Pattern.compile(
        "( +)(?:(?:public|private|static|final) )*(?:[\\w\\[\\]]+ )?(\\w+)\\(([^)]*)\\)(?: throws \\w+)? \\{");
    private static final Pattern FIELD = Pattern.compile(
        "( +)((?:(?:public|private|static|final) )*)[\\w\\[\\]]+ \\w+(?: = .*)?;");
    private static final Pattern CLASS = Pattern.compile("( *)(?:(?:public|private|static|final) )*class (\\w+) \\{");
    private static final Check CHECK = new Check("LanguageTest");

    private static final class Method {
        String name;
        int lines;
        int parameters;
        boolean open;
        final Set<String> calls = new TreeSet<>();
    }

    private LanguageTest() {
    }

    public static void main(String[] args) throws IOException {
        List<String> lines = withoutComments(Files.readString(FILE));
        ruledOut(lines);
        classes(lines);
        List<Method> methods = methods(lines);
        CHECK.due("methods found, more than a hundred", methods.size() > 100, true);
        for (Method method : methods) {
            CHECK.due("rule 11: " + method.name + " has at most 60 lines", method.lines <= 60, true);
            CHECK.due("rule 11: " + method.name + " has at most 7 parameters", method.parameters <= 7, true);
        }
        depths(methods);
        CHECK.end();
    }

    private static List<String> withoutComments(String text) {
        String bare = Pattern.compile("/\\*.*?\\*/", Pattern.DOTALL).matcher(text).replaceAll("");
        return List.of(bare.replaceAll("//[^\n]*", "").split("\n"));
    }

    private static void ruledOut(List<String> lines) {
        Pattern library = Pattern.compile("(?:Math|Integer|Long)\\.(\\w+)");
        for (String line : lines) {
            for (String word : RULED_OUT) {
                CHECK.due("rules 2 to 9: no " + word + " in: " + line, line.contains(word), false);
            }
            Matcher used = library.matcher(line);
            while (used.find()) {
                CHECK.due("rule 4: " + used.group(), LIBRARY.contains(used.group(1)), true);
            }
            if (line.startsWith("import")) {
                CHECK.due("rule 4: " + line, line.equals("import java.util.NoSuchElementException;"), true);
            }
            if (line.contains("throw ")) {
                CHECK.due("rule 6: " + line, line.contains("throw new NoSuchElementException("), true);
            }
        }
    }

    /** Counts classes, and fields by how far a line stands in: four blanks more than its class. */
    private static void classes(List<String> lines) {
        Map<Integer, Integer> fieldCounts = new HashMap<>();
        int count = 0;
        for (String line : lines) {
            Matcher head = CLASS.matcher(line);
            if (head.matches()) {
                count++;
                fieldCounts.put(head.group(1).length() + 4, 0);
            }
            Matcher field = FIELD.matcher(line);
            if (!field.matches() || !fieldCounts.containsKey(field.group(1).length())) {
                continue;
            }
            String modifiers = field.group(2);
            if (modifiers.contains("static")) {
                CHECK.due("rule 5: " + line.trim(), modifiers.contains("final"), true);
            } else {
                int fields = fieldCounts.merge(field.group(1).length(), 1, Integer::sum);
                CHECK.due("rule 11: at most 20 fields, with " + line.trim(), fields <= 20, true);
            }
        }
        CHECK.due("rule 11: at most 12 classes, of " + count, count > 1 && count <= 12, true);
    }

    private static List<Method> methods(List<String> lines) {
        List<Method> methods = new ArrayList<>();
        for (int i = 0; i < lines.size(); i++) {
            Matcher head = METHOD.matcher(lines.get(i));
            if (head.matches() && !NO_METHODS.contains(head.group(2))) {
                methods.add(method(lines, i, head));
            }
        }
        return methods;
    }

    private static Method method(List<String> lines, int from, Matcher head) {
        Method method = new Method();
        method.name = head.group(2);
        method.open = lines.get(from).contains("public ");
        method.parameters = head.group(3).isEmpty() ? 0 : head.group(3).split(",").length;
        Pattern call = Pattern.compile("(\\w+)\\(");
        int at = from + 1;
        while (at < lines.size() && !lines.get(at).equals(head.group(1) + "}")) {
            Matcher found = call.matcher(lines.get(at));
            while (found.find()) {
                method.calls.add(found.group(1));
            }
            at++;
        }
        method.lines = at - from + 1;
        return method;
    }

    /** Counted by names, library calls too, as if each call that is written were made: rather one too many. */
    private static void depths(List<Method> methods) {
        for (Method method : methods) {
            if (method.open) {
                String chain = deepest(method.name, methods, 0);
                CHECK.due("rule 11: at most 8 deep: " + chain, links(chain) <= 8, true);
            }
        }
    }

    private static String deepest(String name, List<Method> methods, int depth) {
        boolean own = false;
        String longest = "";
        for (Method method : methods) {
            if (!method.name.equals(name) || depth > 20) {
                continue;
            }
            own = true;
            for (String called : method.calls) {
                String chain = called.equals(name) ? "" : deepest(called, methods, depth + 1);
                if (links(chain) > links(longest)) {
                    longest = chain;
                }
            }
        }
        return own || LIBRARY.contains(name) ? (name + " " + longest).trim() : "";
    }

    private static int links(String chain) {
        return chain.isEmpty() ? 0 : chain.split(" ").length;
    }
}
