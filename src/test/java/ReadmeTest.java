import java.io.IOException;
import java.nio.file.Files;
import java.nio.file.Path;
import java.util.ArrayList;
import java.util.Comparator;
import java.util.List;
import java.util.regex.Matcher;
import java.util.regex.Pattern;
import java.util.stream.Stream;

/** Follows README.md word for word in a copy of the project: writes its program, runs its commands. */
public final class ReadmeTest {
    private static final Pattern BOX = Pattern.compile("(?s)```(\\w+)\n(.*?)```");
    private static final Pattern PROGRAM = Pattern.compile("public class (\\w+) ");
    private static final Pattern PRINTED = Pattern.compile("System\\.out\\.println\\(.*\\); +// (-?\\d+): .*");

    private final Tally tally = new Tally();
    private final Path copy;
    private String program = "";
    private int boxes;

    public static void main(String[] args) throws IOException, InterruptedException {
        Path place = Files.createTempDirectory("readme");
        ReadmeTest test = new ReadmeTest(place.resolve("main"));
        try {
            copyFiles(Path.of("src"), test.copy.resolve("src"));
            test.follow(Files.readString(Path.of("README.md")));
        } finally {
            remove(place);
        }
        test.tally.close("ReadmeTest");
    }

    private ReadmeTest(Path copy) {
        this.copy = copy;
    }

    private void follow(String readme) throws IOException, InterruptedException {
        for (Matcher box = BOX.matcher(readme); box.find(); boxes++) {
            if (box.group(1).equals("java")) {
                write(box.group(2));
            } else {
                run(box.group(2));
            }
        }
        tally.check("boxes", "" + boxes, "3");
    }

    private void write(String text) throws IOException {
        Matcher name = PROGRAM.matcher(text);
        tally.check("the program has a name", "" + name.find(), "true");
        program = text;
        Files.writeString(copy.resolve(name.group(1) + ".java"), text);
    }

    private void run(String commands) throws IOException, InterruptedException {
        Path out = copy.resolve("out.txt");
        Process process = new ProcessBuilder("sh", "-e", "-c", commands).directory(copy.toFile())
            .redirectErrorStream(true).redirectOutput(out.toFile()).start();
        int status = process.waitFor();
        String printed = Files.readString(out);
        tally.check(commands.trim(), status == 0 ? "0" : status + ", " + printed, "0");
        if (commands.contains(" Morning")) {
            tally.check("the program prints", printed, due());
        }
    }

    private String due() {
        StringBuilder lines = new StringBuilder();
        for (Matcher line = PRINTED.matcher(program); line.find();) {
            lines.append(line.group(1)).append('\n');
        }
        return lines.toString();
    }

    private static void copyFiles(Path from, Path to) throws IOException {
        List<Path> files = new ArrayList<>();
        try (Stream<Path> all = Files.walk(from)) {
            all.forEach(files::add);
        }
        for (Path file : files) {
            Path target = to.resolve(from.relativize(file));
            if (Files.isDirectory(file)) {
                Files.createDirectories(target);
            } else {
                Files.copy(file, target);
            }
        }
    }

    private static void remove(Path place) throws IOException {
        List<Path> files = new ArrayList<>();
        try (Stream<Path> all = Files.walk(place)) {
            all.sorted(Comparator.reverseOrder()).forEach(files::add);
        }
        for (Path file : files) {
            Files.delete(file);
        }
    }
}
