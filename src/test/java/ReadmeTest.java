import java.io.IOException;
import java.nio.charset.StandardCharsets;
import java.nio.file.Files;
import java.nio.file.Path;
import java.util.Comparator;
import java.util.List;
import java.util.stream.Collectors;
import java.util.stream.Stream;

/** What README.md says of the use of the class, tried as it is written: its program, its commands, what they print. */
public final class ReadmeTest {
    public static void main(String[] args) throws Exception {
        List<String> readme = Files.readAllLines(Path.of("README.md"));
        String program = block(readme, "```java", 0);
        Path place = Files.createTempDirectory("readme");
        try {
            Path source = place.resolve("src/main/java/PacketWall.java");
            Files.createDirectories(source.getParent());
            Files.copy(Path.of("src/main/java/PacketWall.java"), source);
            Files.writeString(place.resolve("Example.java"), program);
            String got = run(place, block(readme, "```sh", 0));
            String want = block(readme, "```text", 0);
            System.out.print(got.equals(want) ? "" : "README's example printed:\n" + got + "due is:\n" + want);
            Wall.due("README's example prints what README says", got.equals(want) ? 1 : 0, 1);
        } finally {
            remove(place);
        }
        aTestAlone(block(readme, "```sh", 2));
        Wall.finish();
    }

    /** The commands for one test are not run here, as they would compile all tests again; but the test must be there. */
    private static void aTestAlone(String commands) {
        String name = commands.trim().replaceAll("(?s).* ", "");
        Wall.due("README's test " + name, Files.exists(Path.of("src/test/java", name + ".java")) ? 1 : 0, 1);
    }

    /** The lines of a block, by the line that opens it and how many such are ahead of it. */
    private static String block(List<String> lines, String opening, int ahead) {
        int left = ahead;
        for (int i = 0; i < lines.size(); i++) {
            if (lines.get(i).equals(opening)) {
                if (left == 0) {
                    List<String> within = lines.subList(i + 1, lines.size());
                    return within.stream().takeWhile(line -> !line.equals("```")).collect(Collectors.joining("\n", "", "\n"));
                }
                left--;
            }
        }
        Wall.due("a block " + opening + " in README", 0, 1);
        return "";
    }

    private static String run(Path place, String commands) throws IOException, InterruptedException {
        ProcessBuilder builder = new ProcessBuilder("sh", "-e", "-c", commands).directory(place.toFile());
        Process process = builder.redirectError(ProcessBuilder.Redirect.INHERIT).start();
        String printed = new String(process.getInputStream().readAllBytes(), StandardCharsets.UTF_8);
        Wall.due("README's commands end well", process.waitFor(), 0);
        return printed;
    }

    private static void remove(Path place) throws IOException {
        try (Stream<Path> all = Files.walk(place)) {
            for (Path path : all.sorted(Comparator.reverseOrder()).collect(Collectors.toList())) {
                Files.delete(path);
            }
        }
    }
}
