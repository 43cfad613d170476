import java.io.IOException;
import java.lang.reflect.Constructor;
import java.lang.reflect.Field;
import java.lang.reflect.Method;
import java.lang.reflect.Modifier;
import java.nio.file.Files;
import java.nio.file.Path;
import java.util.Arrays;
import java.util.Map;
import java.util.Set;
import java.util.TreeMap;
import java.util.TreeSet;
import java.util.regex.Matcher;
import java.util.regex.Pattern;

/** The rules of LANGUAGE.md that can be seen from the class's members and its text. */
public final class LanguageTests {
    private static final String[] FACE = {
        "int sheet 3", "int put 4", "int copy 5", "int lose 1", "int square 3", "int order 1", "int at 3",
        "int drop 1", "long sum 3", "int kinds 1", "int odd 3", "int turn 2", "int form 1", "int same 2",
        "int unlike 1", "int make 1", "int product 2", "int swap 2", "int turned 1", "int scale 3",
        "int plus 2", "int seek 3", "int found 0", "int forms 0", "int take 1", "int place 1", "int cause 0",
        "int causes 1", "int count 1", "long digest 0"};
    private static final String[] BANNED = {"throw", "throws", "try", "catch", "synchronized", "assert", "->", "::",
        "protected", "volatile", "native", "hashCode", "toString", "Exact", "System.out", "boolean[]", "Object"};
    // Rule 4, so far as the class needs it: any other name of the library, a constant too, is not there.
    private static final Set<String> LIBRARY = Set.of("System.arraycopy", "Arrays.fill", "Arrays.copyOf",
        "Arrays.copyOfRange", "Math.min", "Math.max", "Math.abs", "Math.floorMod", "Math.floorDiv");
    private static final Set<String> TYPES = Set.of("int", "long", "short", "byte", "char", "boolean", "String");
    private static final int DEEPEST = 8;
    private static int wrong = 0;

    public static void main(String[] args) throws IOException {
        face();
        insides();
        String whole = Files.readString(Path.of("src/main/java/OneSumSquares.java"));
        text(whole);
        String code = bare(whole);
        library(code);
        depth(bodies(code));
        System.out.println(wrong == 0 ? "all rules are kept" : wrong + " rules are not kept");
        if (wrong != 0) {
            System.exit(1);
        }
    }

    private static void due(boolean kept, String what) {
        if (!kept) {
            wrong++;
            System.out.println(what);
        }
    }

    private static void face() {
        Set<String> methods = new TreeSet<>();
        for (Method method : OneSumSquares.class.getDeclaredMethods()) {
            int bits = method.getModifiers();
            if (Modifier.isPublic(bits) && !Modifier.isStatic(bits)) {
                methods.add(method.getReturnType() + " " + method.getName() + " " + method.getParameterCount());
            } else {
                due(Modifier.isPrivate(bits), "not private: " + method);
            }
        }
        due(methods.equals(new TreeSet<>(Arrays.asList(FACE))), "the face is " + methods);
        int constants = 0;
        for (Field field : OneSumSquares.class.getDeclaredFields()) {
            int bits = field.getModifiers();
            due(!Modifier.isStatic(bits) || Modifier.isFinal(bits), "static and not final: " + field);
            due(Modifier.isPublic(bits) || Modifier.isPrivate(bits), "seen outside: " + field);
            constants += Modifier.isPublic(bits) ? 1 : 0;
        }
        due(constants == 5, "public constants: " + constants);
        due(Modifier.isFinal(OneSumSquares.class.getModifiers()), "the class is not final");
        Constructor<?>[] constructors = OneSumSquares.class.getDeclaredConstructors();
        due(constructors.length == 1 && constructors[0].getParameterCount() == 0, "constructors");
    }

    private static void insides() {
        Set<String> names = new TreeSet<>();
        for (String told : FACE) {
            names.add(told.split(" ")[1]);
        }
        for (Class<?> inside : OneSumSquares.class.getDeclaredClasses()) {
            due(Modifier.isStatic(inside.getModifiers()), "not static: " + inside);
            due(Modifier.isPrivate(inside.getModifiers()), "not private: " + inside);
            due(inside.getDeclaredFields().length <= 20, "many fields: " + inside);
            for (Method method : inside.getDeclaredMethods()) {
                due(!names.contains(method.getName()), "a name of the face: " + method);
                due(method.getParameterCount() <= 7, "many parameters: " + method);
            }
        }
        for (Method method : OneSumSquares.class.getDeclaredMethods()) {
            due(Modifier.isPublic(method.getModifiers()) || !names.contains(method.getName()), "twice: " + method);
        }
    }

    private static void text(String whole) {
        String code = bare(whole);
        for (String word : BANNED) {
            boolean isName = Character.isLetter(word.charAt(0)) && Character.isLetter(word.charAt(word.length() - 1));
            Matcher m = Pattern.compile(isName && !word.equals("Exact") ? "\\b" + Pattern.quote(word) + "\\b"
                : Pattern.quote(word)).matcher(code);
            due(!m.find(), "in the text: " + word);
        }
        Matcher imports = Pattern.compile("import ([\\w.]+);").matcher(code);
        while (imports.find()) {
            due(imports.group(1).equals("java.util.Arrays"), "import of " + imports.group(1));
        }
        due(whole.chars().allMatch(c -> c < 128), "a sign beyond 127");
        int start = 0;
        String[] lines = code.split("\n", -1);
        for (int i = 0; i < lines.length; i++) {
            if (lines[i].matches(" {4,8}\\S.*\\) \\{")) {
                start = i;
            } else if (lines[i].matches(" {4,8}\\}")) {
                due(i - start <= 60, "long method at line " + (start + 1));
            }
        }
    }

    private static String bare(String whole) {
        return whole.replaceAll("(?s)/\\*.*?\\*/", "").replaceAll("//[^\n]*", "");
    }

    // Every name that begins as a class's does is one of the class's own, or of what rule 4 lists.
    private static void library(String code) {
        String calls = code.replaceAll("import [^\n]*", "");
        Set<String> own = new TreeSet<>();
        Matcher classes = Pattern.compile("\\bclass (\\w+)").matcher(calls);
        while (classes.find()) {
            own.add(classes.group(1));
        }
        due(own.size() <= 12, "classes: " + own);
        Matcher names = Pattern.compile("(?<![\\w.])([A-Z]\\w*[a-z]\\w*)(\\.\\w+)?").matcher(calls);
        while (names.find()) {
            due(own.contains(names.group(1)) || LIBRARY.contains(names.group()), "not listed: " + names.group());
        }
        Matcher statics = Pattern.compile("static final (\\w+)(\\[\\])* \\w+ =").matcher(calls);
        while (statics.find()) {
            due(TYPES.contains(statics.group(1)), "a static field: " + statics.group());
        }
    }

    // The methods by name, each with what stands between its braces. No name stands in two classes.
    private static Map<String, String> bodies(String code) {
        Map<String, String> bodies = new TreeMap<>();
        Matcher heads = Pattern.compile("(?m)^ {4,8}[\\w\\[\\] ]*?(\\w+)\\([^()]*\\) \\{\\n").matcher(code);
        while (heads.find()) {
            String indent = heads.group().replaceAll("(?s)\\S.*", "");
            int end = code.indexOf("\n" + indent + "}", heads.end() - 1);
            due(end >= 0 && !bodies.containsKey(heads.group(1)), "a name of two methods: " + heads.group(1));
            bodies.put(heads.group(1), code.substring(heads.end() - 1, Math.max(heads.end() - 1, end)));
        }
        due(bodies.size() > 80, "methods seen: " + bodies.size());
        return bodies;
    }

    // Rules 8, 11: the one that calls itself alone is layFrom(), and no chain of others is long.
    private static void depth(Map<String, String> bodies) {
        Map<String, Set<String>> called = new TreeMap<>();
        bodies.forEach((name, body) -> {
            Set<String> names = new TreeSet<>();
            Matcher calls = Pattern.compile("(\\w+)\\(").matcher(body);
            while (calls.find()) {
                if (bodies.containsKey(calls.group(1))) {
                    names.add(calls.group(1));
                }
            }
            due(!names.remove(name) || name.equals("layFrom"), "calls itself: " + name);
            called.put(name, names);
        });
        for (String name : bodies.keySet()) {
            int deep = deep(called, name, 0);
            due(deep <= DEEPEST, "calls behind " + name + ": " + deep);
        }
    }

    private static int deep(Map<String, Set<String>> called, String name, int above) {
        int most = above + 1;
        for (String next : called.get(name)) {
            // A ring of methods would go on for ever: it is told by its depth.
            most = Math.max(most, most > 2 * DEEPEST ? most : deep(called, next, above + 1));
        }
        return most;
    }
}
