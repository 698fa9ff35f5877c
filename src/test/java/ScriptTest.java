import java.io.IOException;
import java.nio.file.Files;
import java.nio.file.Path;
import java.util.ArrayList;
import java.util.List;
import java.util.regex.Matcher;
import java.util.regex.Pattern;
import java.util.stream.Collectors;
import java.util.stream.Stream;

/**
 * Plays the scripts of a directory (its argument). A line "new" makes a new object; any other line holds calls with
 * "; " between them, and may end with " -> " and the answer that is due of the last one. Of a call without a due
 * answer it is asked that it throws nothing. A line that begins with "9 x " is played 9 times; behind " -> " its answer
 * is due the last time, behind " => " each time. In such a line $ is the number of the turn, from 0 on; $*3, $+5 and
 * $*3+5 are numbers made of it. Behind # stands a comment.
 */
public final class ScriptTest {
    /** Nothing is promised of an object's later calls. */
    private static final int MOST_CALLS = 512;
    private static final Pattern OFTEN = Pattern.compile("(\\d+) x (.*)");
    private static final Pattern DUE = Pattern.compile("(.*?) ([-=]>) (.*)");
    private static final Pattern OF_TURN = Pattern.compile("\\$(\\*(\\d+))?([+-]\\d+)?");

    private final Tally tally = new Tally();
    private MarketSquare square;
    private int calls;
    private long turn;

    public static void main(String[] args) throws IOException {
        ScriptTest test = new ScriptTest();
        for (Path script : scriptsOf(Path.of(args[0]))) {
            test.play(script);
        }
        test.tally.close("ScriptTest");
    }

    private static List<Path> scriptsOf(Path directory) throws IOException {
        try (Stream<Path> files = Files.list(directory)) {
            return files.filter(f -> f.toString().endsWith(".txt")).sorted().collect(Collectors.toList());
        }
    }

    private void play(Path script) throws IOException {
        square = null;
        int number = 0;
        for (String whole : Files.readAllLines(script)) {
            number++;
            String line = whole.replaceFirst("#.*", "").trim();
            if (line.equals("new")) {
                square = new MarketSquare();
                calls = 0;
            } else if (!line.isEmpty()) {
                playOften(script.getFileName() + ":" + number, line);
            }
        }
    }

    private void playOften(String where, String line) {
        Matcher often = OFTEN.matcher(line);
        boolean isOften = often.matches();
        long turns = isOften ? Long.parseLong(often.group(1)) : 1;
        String once = isOften ? often.group(2) : line;
        Matcher due = DUE.matcher(once);
        boolean hasDue = due.matches();
        for (turn = 0; turn < turns; turn++) {
            boolean isDue = hasDue && (turn == turns - 1 || due.group(2).equals("=>"));
            playCalls(where, hasDue ? due.group(1) : once, isDue ? due.group(3).trim() : null);
        }
    }

    private void playCalls(String where, String line, String due) {
        String[] each = line.split(";");
        for (int i = 0; i < each.length; i++) {
            String call = each[i].trim();
            String got = play(call);
            if (due != null && i == each.length - 1) {
                tally.check(where + ": " + call, got, OF_TURN.matcher(due).matches() ? "" + ofTurn(due) : due);
            } else if (got.endsWith("Exception")) {
                tally.check(where + ": " + call, got, "no exception");
            }
        }
    }

    private String play(String call) {
        int bracket = call.indexOf('(');
        if (bracket < 0 || !call.endsWith(")")) {
            throw new IllegalStateException("no call: " + call);
        }
        calls++;
        if (calls > MOST_CALLS) {
            throw new IllegalStateException("more than " + MOST_CALLS + " calls of one object: " + call);
        }
        String inside = call.substring(bracket + 1, call.length() - 1).trim();
        List<Object> args = new ArrayList<>();
        if (!inside.isEmpty()) {
            for (String word : inside.split(",")) {
                args.add(argument(word.trim()));
            }
        }
        return Calls.answer(square, call.substring(0, bracket), args.toArray());
    }

    private Object argument(String word) {
        switch (word) {
            case "true": return true;
            case "false": return false;
            case "MIN": return (long) Integer.MIN_VALUE;
            case "MAX": return (long) Integer.MAX_VALUE;
            default: return word.startsWith("$") ? ofTurn(word) : Long.parseLong(word);
        }
    }

    private long ofTurn(String word) {
        Matcher parts = OF_TURN.matcher(word);
        if (!parts.matches()) {
            throw new IllegalStateException("no number: " + word);
        }
        long times = parts.group(2) == null ? 1 : Long.parseLong(parts.group(2));
        return turn * times + (parts.group(3) == null ? 0 : Long.parseLong(parts.group(3)));
    }
}
