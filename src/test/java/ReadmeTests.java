import java.io.IOException;
import java.lang.reflect.Method;
import java.lang.reflect.Modifier;
import java.net.URL;
import java.net.URLClassLoader;
import java.nio.file.Files;
import java.nio.file.Path;
import java.util.ArrayList;
import java.util.List;
import java.util.Set;
import java.util.TreeSet;
import java.util.regex.Matcher;
import java.util.regex.Pattern;
import java.util.spi.ToolProvider;
import java.util.stream.Stream;

/** What README.md says is so: its example answers as told there, and it names every call and test. */
public final class ReadmeTests {
    private static final Pattern TOLD = Pattern.compile("\\s*(?:int|long) (\\w+) = (.*?);\\s*// (-?\\d+)\\b.*");
    private static int wrong = 0;

    private static void due(boolean so, String what) {
        if (!so) {
            wrong++;
            System.out.println(what);
        }
    }

    public static void main(String[] args) throws Exception {
        String readme = Files.readString(Path.of("README.md"));
        example(readme);
        calls(readme);
        numbers(readme);
        tests(readme);
        System.out.println(wrong == 0 ? "README.md is so" : wrong + " things of README.md are not so");
        if (wrong != 0) {
            System.exit(1);
        }
    }

    // ---- the example

    // The example becomes a class of its own, which answers what each of its lines has answered.
    private static void example(String readme) throws Exception {
        Matcher block = Pattern.compile("(?s)```java\n(.*?)```").matcher(readme);
        if (!block.find()) {
            due(false, "README.md has no example");
            return;
        }
        List<String> names = new ArrayList<>();
        List<String> lines = new ArrayList<>();
        List<Long> wants = new ArrayList<>();
        for (String line : block.group(1).split("\n")) {
            Matcher told = TOLD.matcher(line);
            if (told.matches()) {
                names.add(told.group(1));
                lines.add(line.trim());
                wants.add(Long.parseLong(told.group(3)));
            } else {
                due(line.isBlank() || line.contains("new OneSumSquares()"), "nothing is told of: " + line);
            }
        }
        due(names.size() >= 10, "lines of the example that tell an answer: " + names.size());
        long[] got = answers(block.group(1), names);
        for (int i = 0; i < got.length; i++) {
            due(got[i] == wants.get(i), lines.get(i) + " answered " + got[i]);
        }
    }

    private static long[] answers(String code, List<String> names) throws Exception {
        Path room = Files.createTempDirectory("readme");
        try {
            Path file = room.resolve("Example.java");
            Files.writeString(file, "public class Example { public static long[] run() {\n" + code
                + "return new long[] {" + String.join(", ", names) + "}; } }\n");
            ToolProvider javac = ToolProvider.findFirst("javac").orElseThrow();
            int exit = javac.run(System.out, System.out, "-cp", System.getProperty("java.class.path"),
                "-d", room.toString(), file.toString());
            due(exit == 0, "the example does not compile");
            if (exit != 0) {
                return new long[0];
            }
            try (URLClassLoader loader = new URLClassLoader(new URL[] {room.toUri().toURL()})) {
                return (long[]) loader.loadClass("Example").getMethod("run").invoke(null);
            }
        } finally {
            empty(room);
        }
    }

    private static void empty(Path room) throws IOException {
        try (Stream<Path> inside = Files.list(room)) {
            for (Path path : inside.toList()) {
                Files.delete(path);
            }
        }
        Files.delete(room);
    }

    // ---- calls and tests

    // Each call as the document writes it, with its arguments' names.
    private static void calls(String readme) throws IOException {
        Set<String> want = new TreeSet<>();
        String document = Files.readString(Path.of("../shared/DOC.md"));
        Matcher told = Pattern.compile("public (?:int|long) (\\w+)\\(([^)]*)\\);").matcher(document);
        while (told.find()) {
            want.add(told.group(1) + "(" + told.group(2).replace("int ", "") + ")");
        }
        Set<String> got = new TreeSet<>();
        Matcher row = Pattern.compile("(?m)^\\| (`.*`) \\|").matcher(readme);
        while (row.find()) {
            Matcher call = Pattern.compile("`([^`]*)`").matcher(row.group(1));
            while (call.find()) {
                got.add(call.group(1));
            }
        }
        due(want.equals(got), "the calls are " + want + ", told are " + got);
        int face = 0;
        for (Method method : OneSumSquares.class.getDeclaredMethods()) {
            face += Modifier.isPublic(method.getModifiers()) ? 1 : 0;
        }
        due(face == got.size(), "calls of the class: " + face);
    }

    private static void numbers(String readme) {
        due(readme.contains("`NONE` (" + OneSumSquares.NONE + ")"), "NONE");
        due(readme.contains("`UNKNOWN` (" + OneSumSquares.UNKNOWN + ")"), "UNKNOWN");
        due(readme.contains("`OUTSIDE` (" + OneSumSquares.OUTSIDE + ")"), "OUTSIDE");
        due(readme.contains("`STATE` (" + OneSumSquares.STATE + ")"), "STATE");
        due(readme.contains("`FULL` (" + OneSumSquares.FULL + ")"), "FULL");
        OneSumSquares x = new OneSumSquares();
        due(x.lose(0) == -11, "NULL is -11");
        x.sheet(0, 2, 1);
        due(x.put(0, 2, 1, 0) == -12, "INDEX is -12");
        due(x.sheet(0, 2, -1) == -13, "SIZE is -13");
        due(x.put(0, 1, 0, 0) == -14, "CAST is -14");
        x.put(0, 2, 0, 100001);
        due(x.square(0, 0, 1) == -15, "GREAT is -15");
        due(x.at(0, 0, 0) == 1000000, "at() of nothing");
        due(x.sum(0, 0, 1) == 0, "sum() of nothing");
        due(x.found() == OneSumSquares.NONE, "found() of nothing");
    }

    private static void tests(String readme) throws IOException {
        for (String place : new String[] {"src/test/java", "src/test/support"}) {
            try (Stream<Path> files = Files.list(Path.of(place))) {
                for (Path file : files.toList()) {
                    String name = file.getFileName().toString().replace(".java", "");
                    due(readme.contains("`" + name + "`"), "README.md does not name " + file);
                }
            }
        }
        Matcher listed = Pattern.compile("`([A-Z]\\w*(?:Tests|Bounds))`").matcher(readme);
        while (listed.find()) {
            due(Files.exists(Path.of("src/test/java", listed.group(1) + ".java")), "no test " + listed.group(1));
        }
        due(Files.isExecutable(Path.of(".ci/run")), ".ci/run can't be run");
    }
}
