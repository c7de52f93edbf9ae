import java.io.IOException;
import java.lang.reflect.Method;
import java.lang.reflect.Modifier;
import java.nio.file.Files;
import java.nio.file.Path;
import java.util.ArrayList;
import java.util.List;

/** README.md: its program answers what the comments there tell, and its table names each call with what it throws. */
public final class ReadmeTest {
    private static final List<Class<?>> EXCEPTIONS = List.of(
        IllegalArgumentException.class, IllegalStateException.class, IndexOutOfBoundsException.class);

    public static void main(String[] args) throws IOException, InterruptedException {
        Checks checks = new Checks();
        List<String> readme = Files.readAllLines(Path.of("README.md"));
        checkExample(checks, firstJavaBlock(readme));
        checkTable(checks, readme);
        checks.finish("ReadmeTest");
    }

    private static List<String> firstJavaBlock(List<String> readme) {
        int start = readme.indexOf("```java") + 1;
        List<String> rest = readme.subList(start, readme.size());
        return rest.subList(0, rest.indexOf("```"));
    }

    private static void checkExample(Checks checks, List<String> program) throws IOException, InterruptedException {
        List<String> told = answersToldIn(program);
        List<String> printed = run(program);
        checks.due("lines that README's program prints", printed.size(), told.size());
        for (int i = 0; i < Math.min(told.size(), printed.size()); i++) {
            checks.due("answer " + (i + 1) + " of README's program", printed.get(i), told.get(i));
        }
    }

    /** The comment behind each println, up to its colon. */
    private static List<String> answersToldIn(List<String> program) {
        List<String> told = new ArrayList<>();
        for (String line : program) {
            if (line.contains("println(")) {
                String comment = line.substring(line.indexOf("// ") + 3);
                told.add(comment.split(":")[0]);
            }
        }
        return told;
    }

    private static List<String> run(List<String> program) throws IOException, InterruptedException {
        Path folder = Files.createTempDirectory("readme");
        Path source = Files.write(folder.resolve("Example.java"), program);
        String java = Path.of(System.getProperty("java.home"), "bin", "java").toString();
        Process process = new ProcessBuilder(java, "-cp", System.getProperty("java.class.path"), source.toString())
            .redirectError(ProcessBuilder.Redirect.INHERIT).start();
        String output = new String(process.getInputStream().readAllBytes());
        process.waitFor();
        Files.delete(source);
        Files.delete(folder);
        return output.lines().toList();
    }

    private static void checkTable(Checks checks, List<String> readme) {
        for (Method method : HeatGuild.class.getDeclaredMethods()) {
            if (Modifier.isPublic(method.getModifiers())) {
                List<String> rows = rowsOf(method.getName(), readme);
                checks.due("rows of README's table for " + method.getName(), rows.size(), 1);
                checkRow(checks, method, String.join("", rows));
            }
        }
    }

    private static List<String> rowsOf(String call, List<String> readme) {
        return readme.stream().filter(line -> line.startsWith("| `" + call + "(")).toList();
    }

    private static void checkRow(Checks checks, Method method, String row) {
        List<Class<?>> thrown = List.of(method.getExceptionTypes());
        for (Class<?> exception : EXCEPTIONS) {
            checks.due("README says that " + method.getName() + " throws " + exception.getSimpleName(),
                row.contains("`" + exception.getSimpleName() + "`"), thrown.contains(exception));
        }
    }
}
