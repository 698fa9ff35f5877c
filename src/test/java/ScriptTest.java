import java.io.IOException;
import java.nio.file.Files;
import java.nio.file.Path;
import java.util.ArrayList;
import java.util.List;
import java.util.stream.Collectors;
import java.util.stream.Stream;

/**
 * Plays the scripts of a directory (its argument). A line "new" makes a new object; any other line holds calls with
 * "; " between them, and may end with " -> " and the answer that is due of the last one. Of a call without a due
 * answer it is asked that it throws nothing. A line that begins with "9 x " is played 9 times, and its answer is due
 * the last time. Behind # stands a comment.
 */
public final class ScriptTest {
    private final Tally tally = new Tally();
    private MarketSquare square;

    public static void main(String[] args) throws IOException {
        ScriptTest test = new ScriptTest();
        for (Path script : scriptsOf(Path.of(args[0]))) {
            test.play(script);
        }
        test.tally.close("ScriptTest");
    }

    private static List<Path> scriptsOf(Path directory) throws IOException {
        try (Stream<Path> files = Files.list(directory)) {
            return files.filter(f -> f.toString().endsWith(".txt")).sorted().collect(Collectors.toList());
        }
    }

    private void play(Path script) throws IOException {
        square = null;
        int number = 0;
        for (String whole : Files.readAllLines(script)) {
            number++;
            String line = whole.replaceFirst("#.*", "").trim();
            if (line.equals("new")) {
                square = new MarketSquare();
            } else if (!line.isEmpty()) {
                playOften(script.getFileName() + ":" + number, line);
            }
        }
    }

    private void playOften(String where, String line) {
        int times = line.matches("\\d+ x .*") ? Integer.parseInt(line.substring(0, line.indexOf(' '))) : 1;
        String once = line.replaceFirst("^\\d+ x ", "");
        int arrow = once.indexOf(" -> ");
        for (int i = 1; i < times; i++) {
            playLine(where, arrow < 0 ? once : once.substring(0, arrow));
        }
        playLine(where, once);
    }

    private void playLine(String where, String line) {
        int arrow = line.indexOf(" -> ");
        String[] calls = (arrow < 0 ? line : line.substring(0, arrow)).split(";");
        for (int i = 0; i < calls.length; i++) {
            String call = calls[i].trim();
            boolean isDue = arrow >= 0 && i == calls.length - 1;
            String got = play(call);
            if (isDue) {
                tally.check(where + ": " + call, got, line.substring(arrow + 4).trim());
            } else if (got.endsWith("Exception")) {
                tally.check(where + ": " + call, got, "no exception");
            }
        }
    }

    private String play(String call) {
        int bracket = call.indexOf('(');
        if (bracket < 0 || !call.endsWith(")")) {
            throw new IllegalStateException("no call: " + call);
        }
        String inside = call.substring(bracket + 1, call.length() - 1).trim();
        List<Object> args = new ArrayList<>();
        if (!inside.isEmpty()) {
            for (String word : inside.split(",")) {
                args.add(argument(word.trim()));
            }
        }
        return Calls.answer(square, call.substring(0, bracket), args.toArray());
    }

    private static Object argument(String word) {
        switch (word) {
            case "true": return true;
            case "false": return false;
            case "MIN": return (long) Integer.MIN_VALUE;
            case "MAX": return (long) Integer.MAX_VALUE;
            default: return Long.parseLong(word);
        }
    }
}
