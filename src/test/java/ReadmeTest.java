import java.io.ByteArrayOutputStream;
import java.io.File;
import java.io.PrintStream;
import java.lang.reflect.Method;
import java.lang.reflect.Modifier;
import java.net.URL;
import java.net.URLClassLoader;
import java.nio.charset.StandardCharsets;
import java.nio.file.Files;
import java.nio.file.Path;
import java.util.Comparator;
import java.util.List;
import java.util.regex.Matcher;
import java.util.regex.Pattern;
import java.util.stream.Stream;
import javax.tools.ToolProvider;

/** README.md: its program prints what it says there, and its table names every call with its promise. */
public final class ReadmeTest {
    private static final Check CHECK = new Check("ReadmeTest");
    private static final List<String> CALLS = List.of("cloth", "thing", "touch", "colour", "type", "clear", "read",
            "shade", "sleep", "undo", "soRed", "rest", "moves", "bound", "chest", "morning", "surely", "borrower",
            "refuse", "lent", "colours", "least", "sign", "limb", "image", "from", "status", "count", "digest");

    public static void main(String[] args) throws Exception {
        String readme = Files.readString(Path.of(args.length > 0 ? args[0] : "README.md"));
        String main = args.length > 1 ? args[1] : "src/main/java/LentShades.java";
        calls(readme);
        example(block(readme, "java"), block(readme, "text"), main);
        CHECK.end();
    }

    private static void calls(String readme) {
        for (Method m : LentShades.class.getDeclaredMethods()) {
            if (Modifier.isPublic(m.getModifiers())) {
                String row = "`" + m.getName() + "` (" + (2 + CALLS.indexOf(m.getName())) + ")";
                CHECK.due("README.md names " + row, readme.contains(row) ? 1 : 0, 1);
            }
        }
    }

    private static String block(String readme, String kind) {
        Matcher m = Pattern.compile("(?s)\\n```" + kind + "\\n(.*?)```\\n").matcher(readme);
        return m.find() ? m.group(1) : "";
    }

    private static void example(String program, String told, String main) throws Exception {
        Path folder = Files.createTempDirectory("readme");
        try {
            Path file = Files.writeString(folder.resolve("Example.java"), program);
            int code = ToolProvider.getSystemJavaCompiler().run(null, null, null, "-Xlint:all", "-d",
                    folder.toString(), main, file.toString());
            CHECK.due("javac of README.md's program", code, 0);
            if (code == 0) {
                String printed = printed(folder);
                CHECK.due("README.md's program, which printed:\n" + printed + "and", printed.equals(told) ? 1 : 0, 1);
            }
        } finally {
            try (Stream<Path> all = Files.walk(folder)) {
                all.sorted(Comparator.reverseOrder()).map(Path::toFile).forEach(File::delete);
            }
        }
    }

    private static String printed(Path folder) throws Exception {
        ByteArrayOutputStream bytes = new ByteArrayOutputStream();
        PrintStream before = System.out;
        // Without a parent, so that the class is the one that was compiled beside the program.
        try (URLClassLoader loader = new URLClassLoader(new URL[] {folder.toUri().toURL()}, null)) {
            System.setOut(new PrintStream(bytes, true, StandardCharsets.UTF_8));
            loader.loadClass("Example").getMethod("main", String[].class).invoke(null, (Object) new String[0]);
        } finally {
            System.setOut(before);
        }
        return bytes.toString(StandardCharsets.UTF_8).replace(System.lineSeparator(), "\n");
    }
}
