import java.io.IOException;
import java.lang.reflect.Method;
import java.lang.reflect.Modifier;
import java.nio.file.Files;
import java.nio.file.Path;
import java.util.ArrayList;
import java.util.Comparator;
import java.util.List;
import java.util.stream.Stream;

/** README.md: its example works as it is printed there, and it tells each call of the face and each test. */
public final class ReadmeTest {
    private static final Path PROGRAM = Path.of("src", "main", "java", "ShareGraph.java");

    public static void main(String[] args) throws IOException, InterruptedException {
        String readme = Files.readString(Path.of("README.md"));
        exampleWorks(readme);
        namesEachCall(readme);
        namesEachTest(readme);
        Kit.end("ReadmeTest");
    }

    /** The printed commands, in a directory that has nothing but the program and the printed example. */
    private static void exampleWorks(String readme) throws IOException, InterruptedException {
        Path place = Files.createTempDirectory("readme");
        try {
            Files.createDirectories(place.resolve(PROGRAM).getParent());
            Files.copy(PROGRAM, place.resolve(PROGRAM));
            Files.writeString(place.resolve("Example.java"), block(readme, "java"));
            String commands = block(readme, "sh");
            Kit.due("README: commands are printed (1 yes)", commands.contains("Example.java") ? 1 : 0, 1);
            for (String command : commands.split("\n")) {
                Kit.due("README: " + command, printed(place, command), command.startsWith("java ") ? block(readme, "text") : "");
            }
        } finally {
            remove(place);
        }
    }

    /** What stands in the first block of this kind. */
    private static String block(String readme, String kind) {
        String before = "\n```" + kind + "\n";
        int start = readme.indexOf(before);
        int end = readme.indexOf("\n```\n", start + before.length());
        Kit.due("README: there is a block of " + kind + " (1 yes)", start >= 0 && end >= 0 ? 1 : 0, 1);
        return start >= 0 && end >= 0 ? readme.substring(start + before.length(), end + 1) : "";
    }

    private static String printed(Path place, String command) throws IOException, InterruptedException {
        Process process = new ProcessBuilder(List.of(command.split(" "))).directory(place.toFile())
            .redirectError(ProcessBuilder.Redirect.INHERIT).start();
        process.getOutputStream().close();
        String text = new String(process.getInputStream().readAllBytes());
        Kit.due("README: exit code of " + command, process.waitFor(), 0);
        return text.replace("\r\n", "\n");
    }

    private static void remove(Path place) throws IOException {
        List<Path> all = new ArrayList<>();
        try (Stream<Path> files = Files.walk(place)) {
            files.sorted(Comparator.reverseOrder()).forEach(all::add);
        }
        for (Path path : all) {
            Files.delete(path);
        }
    }

    private static void namesEachCall(String readme) {
        for (Method method : ShareGraph.class.getDeclaredMethods()) {
            if (Modifier.isPublic(method.getModifiers())) {
                Kit.due("README: " + method.getName() + " is told (1 yes)", readme.contains("`" + method.getName() + "(") ? 1 : 0, 1);
            }
        }
    }

    private static void namesEachTest(String readme) throws IOException {
        List<String> names = new ArrayList<>();
        try (Stream<Path> files = Files.list(Path.of("src", "test", "java"))) {
            files.forEach(file -> names.add(file.getFileName().toString().replace(".java", "")));
        }
        for (String name : names) {
            boolean isOfARow = name.matches("Term[2-7]Test");
            boolean isTold = readme.contains("`" + name + "`") || readme.contains("`" + name + ".java`");
            Kit.due("README: " + name + " is told (1 yes)", isOfARow || isTold ? 1 : 0, 1);
        }
    }
}
