import java.io.IOException;
import java.net.URL;
import java.net.URLClassLoader;
import java.nio.file.Files;
import java.nio.file.Path;
import java.util.ArrayList;
import java.util.Comparator;
import java.util.List;
import java.util.function.LongConsumer;
import java.util.regex.Matcher;
import java.util.regex.Pattern;
import java.util.stream.Stream;
import javax.tools.JavaCompiler;
import javax.tools.ToolProvider;

/** README.md's piece of a program compiles, and each of its calls gives the answer that stands behind it. */
public final class ReadmeTest {
    private static final Check CHECK = new Check();
    private static final Pattern PIECE = Pattern.compile("(?s)```java\\R(.*?)```");
    private static final Pattern CALL = Pattern.compile("(x\\.\\w+\\(.*?\\)); +// (-?\\d+)(?: .*)?");

    private final List<String> calls = new ArrayList<>();
    private final List<Long> told = new ArrayList<>();
    private final List<Long> given = new ArrayList<>();

    public static void main(String[] args) throws IOException, ReflectiveOperationException {
        CHECK.promise("README.md");
        new ReadmeTest().test(Files.readString(Path.of("README.md")));
        CHECK.end("ReadmeTest");
    }

    private void test(String readme) throws IOException, ReflectiveOperationException {
        Matcher piece = PIECE.matcher(readme);
        CHECK.that("there is a piece of a program", piece.find());
        String program = program(piece.group(1));
        CHECK.that("it tells answers", !calls.isEmpty());
        Path folder = Files.createTempDirectory("readme");
        try {
            run(program, folder);
        } finally {
            remove(folder);
        }
        CHECK.due("so many calls", given.size(), calls.size());
        for (int i = 0; i < Math.min(given.size(), calls.size()); i++) {
            CHECK.due(calls.get(i), given.get(i), told.get(i));
        }
    }

    /** The piece in a method, each call that stands alone in a line handing out its answer. */
    private String program(String piece) {
        StringBuilder program = new StringBuilder("public final class Piece {\n");
        program.append("public static void run(java.util.function.LongConsumer answer) {\n");
        for (String line : piece.split("\\R")) {
            Matcher call = CALL.matcher(line);
            boolean calls = call.matches();
            CHECK.that("an answer behind '" + line + "'", calls || !line.startsWith("x."));
            program.append(calls ? "answer.accept(" + note(call) + ");" : line).append('\n');
        }
        return program.append("}\n}\n").toString();
    }

    private String note(Matcher call) {
        calls.add(call.group(1));
        told.add(Long.parseLong(call.group(2)));
        return call.group(1);
    }

    private void run(String program, Path folder) throws IOException, ReflectiveOperationException {
        Path source = Files.writeString(folder.resolve("Piece.java"), program);
        JavaCompiler compiler = ToolProvider.getSystemJavaCompiler();
        CHECK.that("there is a compiler", compiler != null);
        if (compiler == null) {
            return;
        }
        int wrong = compiler.run(null, null, null, "--release", "17", "-cp", System.getProperty("java.class.path"),
            "-d", folder.toString(), source.toString());
        CHECK.due("the compiler", wrong, 0);
        if (wrong == 0) {
            try (URLClassLoader loader = new URLClassLoader(new URL[] {folder.toUri().toURL()})) {
                LongConsumer answer = given::add;
                loader.loadClass("Piece").getMethod("run", LongConsumer.class).invoke(null, answer);
            }
        }
    }

    private static void remove(Path folder) throws IOException {
        try (Stream<Path> all = Files.walk(folder)) {
            for (Path path : all.sorted(Comparator.reverseOrder()).toList()) {
                Files.delete(path);
            }
        }
    }
}
