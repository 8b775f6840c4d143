import java.io.ByteArrayOutputStream;
import java.io.IOException;
import java.io.PrintStream;
import java.lang.reflect.Method;
import java.lang.reflect.Modifier;
import java.net.URI;
import java.net.URL;
import java.net.URLClassLoader;
import java.nio.file.DirectoryStream;
import java.nio.file.Files;
import java.nio.file.Path;
import java.util.List;
import javax.tools.JavaCompiler;
import javax.tools.JavaFileObject;
import javax.tools.SimpleJavaFileObject;
import javax.tools.StandardJavaFileManager;
import javax.tools.StandardLocation;
import javax.tools.ToolProvider;

/** What README.md says of the class and of its tests is so. */
public final class ReadmeTest {
    private static final int[] TYPES = {100, 104, 108, 110, 112, 114, 116, 118, 120, 122, 124};

    public static void main(String[] args) throws Exception {
        String readme = Files.readString(Path.of("README.md"));
        allCallsAreNamed(readme);
        allMessagesAreNamed(readme);
        allTestsAreNamed(readme);
        exampleRuns(block(readme, "java"), block(readme, "text"));
        Check.end();
    }

    private static void allCallsAreNamed(String readme) {
        for (Method method : MountYard.class.getDeclaredMethods()) {
            if (Modifier.isPublic(method.getModifiers())) {
                String row = rowOf(readme, "| `" + method.getName() + "(");
                Check.is(method.getName() + " has a row", !row.isEmpty());
                for (Class<?> thrown : method.getExceptionTypes()) {
                    Check.is(method.getName() + " names " + thrown.getSimpleName(),
                            row.contains(thrown.getSimpleName()));
                }
                Check.is(method.getName() + " may answer false", row.endsWith("| false |")
                        == (method.getReturnType() == boolean.class));
            }
        }
    }

    private static void allMessagesAreNamed(String readme) {
        for (int type : TYPES) {
            Check.is(type + " has a row", !rowOf(readme, "| " + type + " | ").isEmpty());
        }
    }

    private static String rowOf(String readme, String begin) {
        return readme.lines().filter(line -> line.startsWith(begin)).findFirst().orElse("");
    }

    private static void allTestsAreNamed(String readme) throws IOException {
        int found = 0;
        try (DirectoryStream<Path> tests =
                Files.newDirectoryStream(Path.of("src/test/java"), "*.java")) {
            for (Path test : tests) {
                String name = test.getFileName().toString().replace(".java", "");
                Check.is(name + " is named", readme.matches("(?s).*\\b" + name + "\\b.*"));
                found++;
            }
        }
        Check.is("there are tests", found > 0);
    }

    private static String block(String readme, String kind) {
        String begin = "```" + kind + "\n";
        int from = readme.indexOf(begin) + begin.length();
        return readme.substring(from, readme.indexOf("```", from));
    }

    private static void exampleRuns(String program, String due) throws Exception {
        Path out = Files.createTempDirectory("example");
        try {
            Check.is("the example compiles", compile(program, out));
            Check.same("the example", printed(out), due);
        } finally {
            try (DirectoryStream<Path> made = Files.newDirectoryStream(out)) {
                for (Path file : made) {
                    Files.delete(file);
                }
            }
            Files.delete(out);
        }
    }

    private static boolean compile(String program, Path out) throws IOException {
        JavaCompiler compiler = ToolProvider.getSystemJavaCompiler();
        JavaFileObject source = new SimpleJavaFileObject(URI.create("string:///Example.java"),
                JavaFileObject.Kind.SOURCE) {
            @Override
            public CharSequence getCharContent(boolean ignoreErrors) {
                return program;
            }
        };
        try (StandardJavaFileManager files = compiler.getStandardFileManager(null, null, null)) {
            files.setLocationFromPaths(StandardLocation.CLASS_OUTPUT, List.of(out));
            return compiler.getTask(null, files, null,
                    List.of("--release", "17", "-Xlint:all", "-Werror", "-proc:none"), null,
                    List.of(source)).call();
        }
    }

    private static String printed(Path out) throws Exception {
        ByteArrayOutputStream bytes = new ByteArrayOutputStream();
        PrintStream before = System.out;
        URL[] places = {out.toUri().toURL()};
        try (URLClassLoader loader = new URLClassLoader(places)) {
            System.setOut(new PrintStream(bytes, true));
            loader.loadClass("Example").getMethod("main", String[].class)
                    .invoke(null, (Object) new String[0]);
        } finally {
            System.setOut(before);
        }
        return bytes.toString().replace(System.lineSeparator(), "\n");
    }
}
