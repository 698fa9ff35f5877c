import java.util.List;

/**
 * Each call of the face, with numbers at and beyond every bound, in six settings (a new square, each TIME of one in use,
 * one with all TRADES and TRADERS): it throws the exception that the document tells first, or none; and if it throws, or
 * answers NONE or false, or only looks, all that can be asked is answered as without that call, then and a day later.
 */
public final class RefusedCallsTest {
    private static final long MIN = Integer.MIN_VALUE;
    private static final long MAX = Integer.MAX_VALUE;
    private static final Object[] FLAGS = {false, true};
    private static final Object[] ROWS = {MIN, -1L, 0L, 1L, 3L, 39L, 40L, MAX};
    private static final Object[] PLACES = {MIN, -1L, 0L, 2L, 3L, 9L, 10L, 200L, MAX};
    private static final Object[] TRADERS = {MIN, -1L, 0L, 1L, 2L, 3L, 4L, 5L, 6L, 7L, 199L, 200L, MAX};
    private static final Object[] TRADES = {MIN, -1L, 0L, 1L, 2L, 3L, 19L, 20L, MAX};
    private static final Object[] WHATS = {MIN, -1L, 0L, 1L, 2L, 3L, 4L, 5L, 10L, 11L, 16L, 17L, 32L, MAX};
    private static final String INDEX = "IndexOutOfBoundsException";
    private static final String ARGUMENT = "IllegalArgumentException";
    private static final String STATE = "IllegalStateException";
    private static final String UNSUPPORTED = "UnsupportedOperationException";
    private static final int SETTINGS = 6;
    private static final int WATCHED = 7;
    private static final int PASSED = 9;

    private final Tally tally;
    private final int setting;
    /** The setting itself; it is asked what a call is due to do there. */
    private final MarketSquare known;
    private final String before;
    private final String beforeWithoutPassed;
    private final String dayLater;

    public static void main(String[] args) {
        Tally all = new Tally();
        for (int setting = 0; setting < SETTINGS; setting++) {
            new RefusedCallsTest(setting, all).callAll();
        }
        all.close("RefusedCallsTest");
    }

    private RefusedCallsTest(int setting, Tally all) {
        this.setting = setting;
        this.tally = all;
        known = settle();
        before = snapshot(settle(), false);
        beforeWithoutPassed = snapshot(settle(), true);
        MarketSquare later = settle();
        goOn(later);
        dayLater = snapshot(later, false);
    }

    private void callAll() {
        call("row", ROWS, new Object[] {MIN, -1L, 0L, 1L, 200L, 201L, MAX});
        call("mark", ROWS, PLACES, new Object[] {MIN, -1L, 0L, 1L, 2L, 3L, 32L, MAX}, FLAGS);
        call("trade", new Object[] {MIN, -1L, 0L, 1000L, 1001L, MAX}, new Object[] {MIN, 0L, 1L, 200L, 201L, MAX}, FLAGS);
        call("pair", TRADES, TRADES, FLAGS);
        call("trader", new Object[] {MIN, -1L, 0L, 4L, 5L, MAX}, TRADES, new Object[] {MIN, 0L, 1L, 20L, 21L, MAX});
        call("pitch", TRADERS, ROWS, PLACES);
        call("months", TRADERS, new Object[] {MIN, -1L, 0L, 2L, 4095L, 4096L, MAX});
        call("wish", TRADERS, ROWS, PLACES);
        call("wishes", TRADERS, FLAGS);
        call("want", TRADERS, FLAGS);
        call("day", new Object[] {MIN, -1L, 0L, 11L, 12L, MAX});
        call("there", new Object[][] {TRADERS});
        call("word", new Object[][] {TRADERS});
        call("bell");
        call("why", TRADERS, ROWS, PLACES);
        call("good", new Object[][] {TRADERS});
        call("next");
        call("full");
        call("waiting", new Object[][] {TRADERS});
        call("move", TRADERS, ROWS, PLACES);
        call("change", TRADERS, TRADERS);
        call("leave", new Object[][] {TRADERS});
        call("hour", new Object[][] {{MIN, -1L, 0L, 1L, 2L, 3L, 11L, 12L, 13L, MAX}});
        call("close");
        call("pay", TRADERS, new Object[] {Long.MIN_VALUE, MIN, -1L, 0L, 1L, 99L, 100L, 101L, 4294967297L, Long.MAX_VALUE});
        call("look", TRADERS, WHATS);
        call("owed", new Object[][] {TRADERS});
        call("stall", ROWS, PLACES);
        call("square", ROWS, WHATS);
        call("count", new Object[][] {WHATS});
    }

    /** The call with all choices of its arguments. */
    private void call(String name, Object[]... choices) {
        int[] at = new int[choices.length];
        boolean more = true;
        while (more) {
            Object[] args = new Object[choices.length];
            for (int i = 0; i < args.length; i++) {
                args[i] = choices[i][at[i]];
            }
            callOnce(name, args);
            int turning = 0;
            while (turning < at.length && at[turning] == choices[turning].length - 1) {
                at[turning] = 0;
                turning++;
            }
            more = turning < at.length;
            if (more) {
                at[turning]++;
            }
        }
    }

    private void callOnce(String name, Object[] args) {
        String where = "setting " + setting + ", " + Calls.text(name, args);
        MarketSquare square = settle();
        String answer = Calls.answer(square, name, args);
        boolean isThrown = answer.endsWith("Exception");
        tally.check(where, isThrown ? answer : "no exception", due(name, args));
        if (!isThrown && name.equals("next") && answer.equals("-1")) {
            tally.check(where + ", but for PASSED", snapshot(square, true), beforeWithoutPassed);
        } else if (isThrown || isLook(name) || isRefusal(name, answer)) {
            tally.check(where + " changes", snapshot(square, false), before);
            MarketSquare later = settle();
            Calls.answer(later, name, args);
            goOn(later);
            tally.check(where + " changes the day after", snapshot(later, false), dayLater);
        }
    }

    private static boolean isLook(String name) {
        return List.of("why", "good", "full", "waiting", "look", "owed", "stall", "square", "count").contains(name);
    }

    private static boolean isRefusal(String name, String answer) {
        return answer.equals("false") || name.equals("wish") && answer.equals("-1")
            || name.equals("leave") && answer.equals("-1");
    }

    // ---- what is due, by the document's words ----

    private String due(String name, Object[] args) {
        long a = args.length > 0 && args[0] instanceof Long n ? n : 0;
        long b = args.length > 1 && args[1] instanceof Long n ? n : 0;
        long c = args.length > 2 && args[2] instanceof Long n ? n : 0;
        long time = known.count(2);
        switch (name) {
            case "row": return first(!in(a, 0, 39), INDEX, !in(b, 0, 200), ARGUMENT, time != 0, STATE);
            case "mark": return first(!in(a, 0, 39) || !in(b, 0, known.square((int) a, 0) - 1), INDEX,
                !in(c, 0, 2), ARGUMENT, time != 0, STATE);
            case "trade": return first(!in(a, 0, 1000) || !in(b, 1, 200), ARGUMENT, known.count(0) == 20, UNSUPPORTED);
            case "pair": return first(!isTrade(a) || !isTrade(b), INDEX, time != 0, STATE);
            case "trader": return first(!isTrade(b), INDEX, !in(a, 0, 4) || !in(c, 1, 20), ARGUMENT,
                known.count(1) == 200, UNSUPPORTED);
            case "pitch": return first(!isTrader(a), INDEX, !isOfKind(a, 0) && !isOfKind(a, 2), ARGUMENT, time != 0, STATE);
            case "months": return first(!isTrader(a), INDEX, !isOfKind(a, 2) || !in(b, 0, 4095), ARGUMENT, time != 0, STATE);
            case "day": return first(!in(a, 0, 11), ARGUMENT, time != 0, STATE);
            case "there": return first(!isTrader(a), INDEX, time == 0, STATE);
            case "word": return first(!isTrader(a), INDEX, time != 1, STATE);
            case "bell": return first(!in(time, 1, 2), STATE);
            case "next": case "full": case "close": return first(time != 3, STATE);
            case "move": case "leave": return first(!isTrader(a), INDEX, !in(time, 2, 3), STATE);
            case "change": return first(!isTrader(a) || !isTrader(b), INDEX, !in(time, 2, 3), STATE);
            case "hour": return first(!in(a, known.count(4), 12), ARGUMENT, time == 0, STATE);
            case "pay": return first(!isTrader(a), INDEX, !isTrader(a) || !in(b, 1, known.owed((int) a)), ARGUMENT);
            case "look": return first(!isTrader(a), INDEX, !in(b, 0, 16), ARGUMENT);
            case "wish": case "wishes": case "want": case "why": case "good": case "owed":
                return first(!isTrader(a), INDEX);
            default: return "no exception";
        }
    }

    /** The exception behind the first condition that holds. */
    private static String first(Object... conditions) {
        for (int i = 0; i < conditions.length; i += 2) {
            if ((Boolean) conditions[i]) {
                return (String) conditions[i + 1];
            }
        }
        return "no exception";
    }

    private static boolean in(long number, long least, long most) {
        return least <= number && number <= most;
    }

    private boolean isTrade(long number) {
        return in(number, 0, known.count(0) - 1);
    }

    private boolean isTrader(long number) {
        return in(number, 0, known.count(1) - 1);
    }

    private boolean isOfKind(long trader, int kind) {
        return isTrader(trader) && known.look((int) trader, 0) == kind;
    }

    // ---- the settings ----

    private MarketSquare settle() {
        MarketSquare s = new MarketSquare();
        if (setting == 5) {
            fill(s);
        } else if (setting > 0) {
            layOut(s);
            passDays(s);
            passTimes(s, setting - 1);
        }
        return s;
    }

    private static void fill(MarketSquare s) {
        s.row(0, 10);
        s.row(39, 6);
        for (int i = 0; i < 20; i++) {
            s.trade(100 + i, 9, i % 2 == 1);
        }
        for (int i = 0; i < 200; i++) {
            s.trader(i % 5, i % 20, 1 + i % 3);
        }
    }

    private static void layOut(MarketSquare s) {
        s.row(0, 10);
        s.row(1, 10);
        s.row(2, 6);
        s.row(39, 4);
        s.mark(0, 9, 0, true);
        s.mark(1, 2, 2, true);
        s.mark(1, 3, 2, true);
        s.mark(2, 5, 1, true);
        s.trade(100, 3, false);
        s.trade(50, 9, true);
        s.trade(1000, 1, false);
        s.pair(0, 1, true);
        s.pair(2, 2, true);
        s.trader(0, 0, 3);
        s.trader(2, 1, 2);
        s.trader(1, 2, 1);
        s.trader(3, 0, 2);
        s.trader(4, 1, 1);
        s.trader(0, 0, 2);
        s.trader(1, 2, 1);
        s.pitch(0, 0, 0);
        s.pitch(1, 2, 1);
        s.pitch(5, 0, 1);
        s.months(1, 3);
        s.want(2, true);
        s.wishes(2, true);
        s.wish(3, 1, 2);
        s.wishes(4, true);
        for (int i = 0; i < 12; i++) {
            s.wish(6, 0, 9 + i);
        }
    }

    /** Some OWE then, and others were AWAY twice. */
    private static void passDays(MarketSquare s) {
        s.day(0);
        for (int i = 0; i < WATCHED; i++) {
            s.there(i);
        }
        s.bell();
        s.bell();
        s.next();
        s.next();
        s.hour(3);
        s.close();
        s.pay(0, 500);
        for (int i = 0; i < 2; i++) {
            s.day(1);
            s.there(0);
            s.bell();
            s.bell();
            s.close();
        }
    }

    private static void passTimes(MarketSquare s, int time) {
        if (time >= 1) {
            s.day(1);
            s.there(0);
            s.there(2);
            s.word(1);
            s.hour(1);
        }
        if (time >= 2) {
            s.there(3);
            s.there(5);
            s.bell();
        }
        if (time >= 3) {
            s.there(4);
            s.there(6);
            s.bell();
            s.next();
            s.next();
            s.hour(2);
            s.leave(3);
        }
    }

    /** The day that is, if one is, to its end, and one more. */
    private static void goOn(MarketSquare s) {
        while (s.count(2) != 0) {
            if (s.count(2) == 3) {
                s.close();
            } else {
                s.bell();
            }
        }
        s.day(1);
        for (int i = 0; i < 4 && i < s.count(1); i++) {
            s.there(i);
        }
        s.bell();
        s.bell();
        s.next();
        s.next();
        s.hour(12);
    }

    // ---- all that can be asked ----

    private static String snapshot(MarketSquare s, boolean withoutPassed) {
        StringBuilder text = new StringBuilder();
        for (int what = 0; what <= 10; what++) {
            text.append(s.count(what)).append(' ');
        }
        for (int row : new int[] {0, 1, 2, 39}) {
            for (int what = 0; what <= 4; what++) {
                text.append(s.square(row, what)).append(' ');
            }
            for (int place = 0; place < 10; place++) {
                text.append(s.stall(row, place)).append(' ');
            }
        }
        for (int i = 0; i < WATCHED && i < s.count(1); i++) {
            for (int what = 0; what <= 16; what++) {
                text.append(withoutPassed && what == PASSED ? 0 : s.look(i, what)).append(' ');
            }
            text.append(s.owed(i)).append(' ').append(s.good(i)).append(' ').append(s.waiting(i)).append(' ');
            for (int place = 1; place < 10; place += 4) {
                text.append(s.why(i, 0, place)).append(' ').append(s.why(i, 1, place)).append(' ');
            }
        }
        return text.append(s.count(2) == 3 && s.full()).toString();
    }
}
