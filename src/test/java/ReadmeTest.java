import java.io.IOException;
import java.net.URL;
import java.net.URLClassLoader;
import java.nio.file.Files;
import java.nio.file.Path;
import java.util.Comparator;
import java.util.List;
import java.util.stream.Stream;
import javax.tools.JavaCompiler;
import javax.tools.ToolProvider;

/** README.md says how to use the class, by an example that holds, and how to run its tests. */
public final class ReadmeTest {
    public static void main(String[] args) throws IOException, ReflectiveOperationException {
        Check check = new Check();
        Path project = Path.of(args[0]).toAbsolutePath().normalize().getParent().resolve("../../..").normalize();
        String page = Files.readString(project.resolve("README.md"));
        example(check, page);
        calls(check, page);
        tests(check, page, project);
        check.end();
    }

    private static void example(Check check, String page) throws IOException, ReflectiveOperationException {
        int start = page.indexOf("```java\n") + "```java\n".length();
        String example = page.substring(start, page.indexOf("```", start));
        String due = "rules 1, found 1, told 2 0 5 10 0 0 3 in cell 1, left 0";
        check.due("the example", played(example), due);
    }

    /** Compiles the example as the body of a method, and calls it. */
    private static String played(String example) throws IOException, ReflectiveOperationException {
        Path work = Files.createTempDirectory("readme");
        try {
            Path file = work.resolve("Example.java");
            Files.writeString(file, "public final class Example { public static String play() {\n" + example
                    + "return \"rules \" + rules + \", found \" + found + \", told \" + told + \", left \" + left; } }");
            JavaCompiler compiler = ToolProvider.getSystemJavaCompiler();
            String classes = System.getProperty("java.class.path");
            if (compiler.run(null, null, null, "-cp", classes, "-d", work.toString(), file.toString()) != 0) {
                return "not compiled";
            }
            try (URLClassLoader loader = new URLClassLoader(new URL[] {work.toUri().toURL()})) {
                return (String) loader.loadClass("Example").getMethod("play").invoke(null);
            }
        } finally {
            remove(work);
        }
    }

    private static void remove(Path work) throws IOException {
        List<Path> paths;
        try (Stream<Path> walk = Files.walk(work)) {
            paths = walk.sorted(Comparator.reverseOrder()).toList();
        }
        for (Path path : paths) {
            Files.delete(path);
        }
    }

    private static void calls(Check check, String page) {
        for (String call : new String[] {"new RuleDeck(layers)", "unit(u)", "units(four)", "read()", "cell()", "polygon(cell, layer)",
            "corner(polygon, x, y)", "voltage(polygon, v)", "place(cell, of, x, y, turn)", "run(rule, cell, flat)", "violation(k, what)",
            "cellOf(k)", "waive(k)", "changed(x0, y0, x1, y1)", "same(rule, cell)", "count(what)", "occurrences(cell)"}) {
            check.due("the page tells of " + call, page.contains("`" + call + "`"), true);
        }
    }

    private static void tests(Check check, String page, Path project) throws IOException {
        check.due("the page tells how to run the tests", page.contains(".ci/run"), true);
        check.due("that can be run", Files.isExecutable(project.resolve(".ci/run")), true);
        try (Stream<Path> files = Files.list(project.resolve("src/test/java"))) {
            for (Path file : files.toList()) {
                String name = file.getFileName().toString().replace(".java", "");
                check.due("the page tells of " + name, !name.endsWith("Test") || page.contains("`" + name + "`"), true);
            }
        }
    }
}
