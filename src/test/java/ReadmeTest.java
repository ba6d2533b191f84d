import java.io.IOException;
import java.nio.file.Files;
import java.nio.file.Path;
import java.util.ArrayList;
import java.util.List;

/** The program that README.md shows compiles, and prints what stands behind its lines. */
public final class ReadmeTest {
    private static final Due due = new Due("ReadmeTest");
    private static final String PRINTS = "System.out.println(", SAYS = ";\\s+// ";

    public static void main(String[] args) throws Exception {
        List<String> program = program(Files.readAllLines(Path.of("README.md")));
        due.is("it shows many answers", answers(program).size() > 20 ? 1 : 0, 1);
        Path room = Files.createTempDirectory("readme");
        try {
            due.is("all that it prints", printed(program, room).toString(), answers(program).toString());
        } finally {
            Files.deleteIfExists(room.resolve("Example.java"));
            Files.deleteIfExists(room.resolve("Example.class"));
            Files.delete(room);
        }
        due.end();
    }

    private static List<String> program(List<String> readme) {
        List<String> behind = readme.subList(readme.indexOf("```java") + 1, readme.size());
        return behind.subList(0, behind.indexOf("```"));
    }

    private static List<String> answers(List<String> program) {
        List<String> answers = new ArrayList<>();
        for (String line : program) {
            if (line.contains(PRINTS)) {
                String[] parts = line.split(SAYS, 2);
                answers.add(parts.length == 2 ? parts[1] : "nothing is said of" + line);
            }
        }
        return answers;
    }

    private static List<String> printed(List<String> program, Path room) throws IOException, InterruptedException {
        String file = Files.write(room.resolve("Example.java"), program).toString();
        String organ = System.getProperty("java.class.path");
        run("javac", "-cp", organ, "-d", room.toString(), file);
        return run("java", "-cp", room + System.getProperty("path.separator") + organ, "Example");
    }

    private static List<String> run(String... command) throws IOException, InterruptedException {
        Process process = new ProcessBuilder(command).redirectError(ProcessBuilder.Redirect.INHERIT).start();
        List<String> printed = new String(process.getInputStream().readAllBytes()).lines().toList();
        due.is(command[0] + " ends with", process.waitFor(), 0);
        return printed;
    }
}
