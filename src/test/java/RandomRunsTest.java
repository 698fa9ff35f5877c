import java.util.Random;

/** Plays runs of calls, chosen by fixed seeds, on a MarketSquare and on a PlainSquare; both have to answer the same. */
public final class RandomRunsTest {
    private static final int RUNS = 3000;
    private static final int CALLS = 512;
    /** Where ints end, and where they go round if 200, a FRONT or a bit is made of them. */
    private static final long[] EXTREMES = {Integer.MIN_VALUE, Integer.MIN_VALUE + 1, Integer.MAX_VALUE,
        Integer.MAX_VALUE - 1, Integer.MAX_VALUE - 19, 10737418, -10737418, 21474836, 65536, 256, 200, -200, 32};

    private final Tally tally = new Tally();
    private Random random;
    private MarketSquare square;
    private PlainSquare plain;
    private String where;
    private int calls;
    private int rows;
    private int places;
    private int mostFront;
    private int mostTrades;
    private int mostTraders;
    private int mostWrong;
    /** How likely a day goes on to its next TIME: one call in so many. */
    private int leisure;

    public static void main(String[] args) {
        RandomRunsTest test = new RandomRunsTest();
        for (int seed = 0; seed < RUNS; seed++) {
            test.run(seed);
        }
        test.tally.close("RandomRunsTest");
    }

    private void run(int seed) {
        random = new Random(seed);
        square = new MarketSquare();
        plain = new PlainSquare();
        where = "seed " + seed;
        calls = 0;
        rows = 1 + random.nextInt(random.nextInt(10) == 0 ? 40 : 4);
        places = random.nextInt(10) == 0 ? 1 + random.nextInt(200) : 4 + random.nextInt(16);
        mostFront = 1 + random.nextInt(random.nextInt(10) == 0 ? 20 : 4);
        mostTrades = 1 + random.nextInt(4);
        mostTraders = 1 + random.nextInt(random.nextInt(10) == 0 ? 210 : 14);
        mostWrong = random.nextInt(4) == 0 ? 5 : 60;
        leisure = 3 + random.nextInt(20);
        layOut();
        while (calls < CALLS) {
            if (random.nextInt(3) == 0) {
                observe();
            } else {
                act();
            }
        }
    }

    /** A setting in which days can go on: ROWS, TRADES, TRADERS, PITCHES and WISHES. */
    private void layOut() {
        for (int i = 0; i < rows && random.nextInt(8) != 0; i++) {
            call("row", i, 1 + places / 2 + random.nextInt(places - places / 2));
        }
        for (int i = random.nextInt(2 * rows + 1); i > 0 && calls < 100; i--) {
            call("mark", row(), place(), 2, true);
        }
        for (int i = 0; i < mostTrades; i++) {
            newTrade();
        }
        for (int i = 0; i < mostTraders && calls < 300; i++) {
            newTrader();
        }
        for (int i = random.nextInt(20); i > 0; i--) {
            actQuietly();
        }
    }

    private void act() {
        switch ((int) plain.count(2)) {
            case 0:
                if (random.nextInt(3) == 0) {
                    call("day", random.nextInt(random.nextInt(3) == 0 ? 12 : 2));
                } else {
                    actQuietly();
                }
                break;
            case 1:
                actOnTheMorning();
                break;
            case 2:
                if (random.nextInt(leisure) == 0) {
                    call("bell");
                } else {
                    actAmongStalls();
                }
                break;
            default:
                if (random.nextInt(leisure) == 0) {
                    call("close");
                } else if (random.nextInt(2) == 0) {
                    call("next");
                } else {
                    actAmongStalls();
                }
                break;
        }
        if (random.nextInt(mostWrong) == 0) {
            actAtAnyTime();
        }
    }

    private void actQuietly() {
        switch (random.nextInt(12)) {
            case 0: call("row", row(), random.nextInt(4) == 0 ? 0 : number(1 + places)); break;
            case 1: case 2: call("mark", row(), place(), random.nextInt(6) == 0 ? number(4) : 2, flip()); break;
            case 3: call("pair", trade(), trade(), flip()); break;
            case 4: case 5: case 6: call("pitch", trader(), row(), place()); break;
            case 7: call("months", trader(), random.nextInt(4) == 0 ? number(5000) : random.nextInt(4096) | 3); break;
            case 8: newTrader(); break;
            case 9: call("want", trader(), random.nextInt(4) != 0); break;
            default: wishOrPay(); break;
        }
    }

    private void actOnTheMorning() {
        if (random.nextInt(leisure) == 0) {
            call("bell");
            return;
        }
        switch (random.nextInt(8)) {
            case 0: call("word", trader()); break;
            case 1: wishOrPay(); break;
            case 2: call("hour", random.nextInt(3)); break;
            default: call("there", trader()); break;
        }
    }

    private void actAmongStalls() {
        switch (random.nextInt(9)) {
            case 0: call("leave", trader()); break;
            case 1: call("hour", plain.count(4) + random.nextInt(3)); break;
            case 2: case 3: call("move", standing(), row(), place()); break;
            case 4: case 5: call("change", standing(), standing()); break;
            case 6: wishOrPay(); break;
            default: call("there", trader()); break;
        }
    }

    private void wishOrPay() {
        switch (random.nextInt(4)) {
            case 0: call("wishes", trader(), random.nextInt(3) != 0); break;
            case 1: payWhatIsOwed(); break;
            default: call("wish", trader(), row(), place()); break;
        }
    }

    private void payWhatIsOwed() {
        int trader = (int) trader();
        long owed = trader >= 0 && trader < plain.count(1) ? plain.owed(trader) : 0;
        call("pay", trader, owed > 5000 && flip() ? owed - 5000 : random.nextInt(4) == 0 ? owed + 1 : owed / 2);
    }

    /** Anything, whether it is the TIME for it or not, perhaps with wrong numbers. */
    private void actAtAnyTime() {
        switch (random.nextInt(10)) {
            case 0: newTrade(); break;
            case 1: newTrader(); break;
            case 2: call("day", number(13)); break;
            case 3: call("bell"); break;
            case 4: call("close"); break;
            case 5: call("hour", number(14)); break;
            case 6: actQuietly(); break;
            case 7: actOnTheMorning(); break;
            case 8: call("next"); break;
            default: actAmongStalls(); break;
        }
    }

    private void observe() {
        switch (random.nextInt(10)) {
            case 0: case 1: call("why", trader(), row(), place()); break;
            case 2: call("good", trader()); break;
            case 3: call("full"); break;
            case 4: call("waiting", random.nextInt(3) == 0 ? number(220) : number(4)); break;
            case 5: call("owed", trader()); break;
            case 6: call("stall", row(), place()); break;
            case 7: call("square", row(), number(5)); break;
            case 8: call("count", number(11)); break;
            default: call("look", trader(), number(17)); break;
        }
    }

    private void newTrade() {
        boolean dear = random.nextInt(3) == 0;
        call("trade", dear ? above(900, 102) : number(50), flip() ? 200 : number(4), random.nextInt(3) == 0);
    }

    private void newTrader() {
        call("trader", random.nextInt(3) == 0 ? 1 : number(5), trade(), above(1, mostFront));
        long newest = plain.count(1) - 1;
        if (random.nextInt(4) != 0) {
            call("wishes", newest, true);
        }
        if (newest >= 0 && plain.look((int) newest, 0) % 2 == 0 && plain.count(2) == 0) {
            call("pitch", newest, row(), place());
        }
    }

    /** Mostly one of 0 .. below - 1, now and then another. */
    private long number(int below) {
        switch (random.nextInt(mostWrong * 4)) {
            case 0: return -1 - random.nextInt(3);
            case 1: return below + random.nextInt(3);
            case 2: case 3: return EXTREMES[random.nextInt(EXTREMES.length)];
            default: return random.nextInt(Math.max(below, 1));
        }
    }

    private long above(int least, int below) {
        return Math.min(least + number(below), Integer.MAX_VALUE);
    }

    private long row() {
        return number(rows);
    }

    private long place() {
        return number(places);
    }

    private long trade() {
        return number((int) plain.count(0));
    }

    private long trader() {
        return number((int) plain.count(1));
    }

    /** Mostly a TRADER who has a STALL, if there is one. */
    private long standing() {
        long found = trader();
        for (int i = 0; i < 6 && (found < 0 || found >= plain.count(1) || plain.look((int) found, 5) == -1); i++) {
            found = trader();
        }
        return found;
    }

    private boolean flip() {
        return random.nextBoolean();
    }

    private void call(String name, Object... args) {
        if (calls >= CALLS) {
            return;
        }
        calls++;
        Object[] longs = new Object[args.length];
        for (int i = 0; i < args.length; i++) {
            longs[i] = args[i] instanceof Integer number ? (Object) (long) number : args[i];
        }
        String due = Calls.answer(plain, name, longs);
        String got = Calls.answer(square, name, longs);
        tally.check(where + ", call " + calls + ": " + Calls.text(name, longs), got, due);
    }
}
