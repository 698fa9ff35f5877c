import java.util.ArrayList;
import java.util.Comparator;
import java.util.List;

/** The document once more, written as near to its words as can be, with the library and without a care for speed. */
public final class PlainSquare {
    private static final int NONE = -1;

    private static final class Place {
        boolean post;
        boolean drain;
        boolean water;
    }

    private record Spot(int row, int place) {
        int code() {
            return 200 * row + place;
        }
    }

    private record Trade(int rate, int limit, boolean cloth) {
    }

    private record Stall(Trader of, Spot spot, int came) {
        int begin() {
            return spot.place();
        }

        int end() {
            return spot.place() + of.front - 1;
        }
    }

    private static final class Trader {
        int kind;
        int trade;
        int front;
        int rank;
        int months = 4095;
        Spot pitch;
        List<Spot> wish = new ArrayList<>();
        boolean any;
        boolean want;
        boolean came;
        boolean toldWord;
        boolean slighted;
        boolean passed;
        boolean left;
        boolean stoodToday;
        List<Integer> daysThere = new ArrayList<>();
        List<Integer> daysStood = new ArrayList<>();
        List<Boolean> awayWhereCounted = new ArrayList<>();
        long fees;
        long paid;

        long owes() {
            return fees - paid;
        }
    }

    private final Place[][] rows = new Place[40][];
    private final List<Trade> trades = new ArrayList<>();
    private final List<List<Integer>> pairs = new ArrayList<>();
    private final List<Trader> traders = new ArrayList<>();
    private List<Stall> stalls = new ArrayList<>();
    private int nextRank;
    private int time;
    private int begun;
    private int month;
    private int hour;
    private int pitchesLost;
    private int pitchesGiven;

    public void row(int row, int places) {
        refuseUnless(isRow(row), new IndexOutOfBoundsException());
        refuseUnless(places >= 0 && places <= 200, new IllegalArgumentException());
        atTime(0);
        rows[row] = places == 0 ? null : new Place[places];
        for (int i = 0; i < places; i++) {
            rows[row][i] = new Place();
        }
    }

    public boolean mark(int row, int place, int what, boolean on) {
        refuseUnless(isRow(row) && rows[row] != null && place >= 0 && place < rows[row].length,
            new IndexOutOfBoundsException());
        refuseUnless(what >= 0 && what <= 2, new IllegalArgumentException());
        atTime(0);
        Place p = rows[row][place];
        boolean before = what == 0 ? p.post : what == 1 ? p.drain : p.water;
        switch (what) {
            case 0 -> p.post = on;
            case 1 -> p.drain = on;
            default -> p.water = on;
        }
        return before != on;
    }

    public int trade(int rate, int limit, boolean cloth) {
        refuseUnless(rate >= 0 && rate <= 1000 && limit >= 1 && limit <= 200, new IllegalArgumentException());
        refuseUnless(trades.size() < 20, new UnsupportedOperationException());
        trades.add(new Trade(rate, limit, cloth));
        return trades.size() - 1;
    }

    public boolean pair(int a, int b, boolean on) {
        refuseUnless(isTrade(a) && isTrade(b), new IndexOutOfBoundsException());
        atTime(0);
        List<Integer> pair = List.of(Math.min(a, b), Math.max(a, b));
        return on ? !pairs.contains(pair) && pairs.add(pair) : pairs.remove(pair);
    }

    public int trader(int kind, int trade, int front) {
        refuseUnless(isTrade(trade), new IndexOutOfBoundsException());
        refuseUnless(kind >= 0 && kind <= 4 && front >= 1 && front <= 20, new IllegalArgumentException());
        refuseUnless(traders.size() < 200, new UnsupportedOperationException());
        Trader t = new Trader();
        t.kind = kind;
        t.trade = trade;
        t.front = front;
        t.rank = nextRank++;
        traders.add(t);
        return traders.size() - 1;
    }

    public void pitch(int trader, int row, int place) {
        Trader t = get(trader);
        refuseUnless(t.kind == 0 || t.kind == 2, new IllegalArgumentException());
        atTime(0);
        t.pitch = new Spot(row, place);
    }

    public void months(int trader, int bits) {
        Trader t = get(trader);
        refuseUnless(t.kind == 2 && bits >= 0 && bits <= 4095, new IllegalArgumentException());
        atTime(0);
        t.months = bits;
    }

    public int wish(int trader, int row, int place) {
        Trader t = get(trader);
        if (t.wish.size() == 12) {
            return NONE;
        }
        t.wish.add(new Spot(row, place));
        return t.wish.size();
    }

    public void wishes(int trader, boolean any) {
        Trader t = get(trader);
        t.wish.clear();
        t.any = any;
    }

    public void want(int trader, boolean on) {
        get(trader).want = on;
    }

    public int day(int month) {
        refuseUnless(month >= 0 && month <= 11, new IllegalArgumentException());
        atTime(0);
        this.month = month;
        hour = 0;
        time = 1;
        return begun++;
    }

    public boolean there(int trader) {
        Trader t = get(trader);
        atTime(1, 2, 3);
        boolean first = !t.came;
        t.came = true;
        return first;
    }

    public boolean word(int trader) {
        Trader t = get(trader);
        atTime(1);
        boolean first = !isOfWord(t) && !t.came;
        t.toldWord = true;
        return first;
    }

    public int bell() {
        atTime(1, 2);
        int before = stalls.size();
        if (time == 1) {
            for (Trader t : byRank()) {
                if (t.pitch != null && t.came) {
                    t.slighted = !comes(t, t.pitch);
                }
            }
        }
        time++;
        return stalls.size() - before;
    }

    public int why(int trader, int row, int place) {
        return against(get(trader), new Spot(row, place), stalls);
    }

    public int good(int trader) {
        Spot spot = goodSpot(get(trader));
        return spot == null ? NONE : spot.code();
    }

    public int next() {
        atTime(3);
        for (Trader t : waitingOnes()) {
            Spot spot = goodSpot(t);
            if (spot != null) {
                comes(t, spot);
                return traders.indexOf(t);
            }
            t.passed = true;
        }
        return NONE;
    }

    public boolean full() {
        atTime(3);
        return waitingOnes().stream().allMatch(t -> goodSpot(t) == null);
    }

    public int waiting(int k) {
        List<Trader> all = time == 3 ? waitingOnes() : List.of();
        return k < 0 || k >= all.size() ? NONE : traders.indexOf(all.get(k));
    }

    public boolean move(int trader, int row, int place) {
        Trader t = get(trader);
        atTime(2, 3);
        Stall old = stallOf(t);
        Spot spot = new Spot(row, place);
        if (old == null || against(t, spot, stalls) != 0) {
            return false;
        }
        stalls.remove(old);
        stalls.add(new Stall(t, spot, old.came()));
        return true;
    }

    public boolean change(int trader, int other) {
        Trader a = get(trader);
        Trader b = get(other);
        atTime(2, 3);
        Stall ofA = stallOf(a);
        Stall ofB = stallOf(b);
        if (ofA == null || ofB == null || trader == other) {
            return false;
        }
        List<Stall> rest = new ArrayList<>(stalls);
        rest.remove(ofA);
        rest.remove(ofB);
        if (against(a, ofB.spot(), rest) != 0) {
            return false;
        }
        rest.add(new Stall(a, ofB.spot(), ofA.came()));
        if (against(b, ofA.spot(), rest) != 0) {
            return false;
        }
        rest.add(new Stall(b, ofA.spot(), ofB.came()));
        stalls = rest;
        return true;
    }

    public int leave(int trader) {
        Trader t = get(trader);
        atTime(2, 3);
        if (stallOf(t) == null) {
            return NONE;
        }
        t.left = true;
        return goes(stallOf(t));
    }

    public void hour(int hour) {
        refuseUnless(hour >= this.hour && hour <= 12, new IllegalArgumentException());
        atTime(1, 2, 3);
        this.hour = hour;
    }

    public int close() {
        atTime(3);
        for (Stall stall : List.copyOf(stalls)) {
            goes(stall);
        }
        List<Trader> losers = new ArrayList<>();
        for (Trader t : byRank()) {
            if (t.came) {
                t.daysThere.add(begun - 1);
            }
            if (t.stoodToday) {
                t.daysStood.add(begun - 1);
            }
            if (dayCounts(t)) {
                boolean away = !t.came && !isOfWord(t);
                t.awayWhereCounted.add(away);
                if (away && daysAway(t) >= 3) {
                    losers.add(t);
                }
            }
        }
        time = 0;
        losers.forEach(this::handOn);
        for (Trader t : traders) {
            t.came = t.toldWord = t.slighted = t.passed = t.left = t.stoodToday = false;
        }
        return losers.size();
    }

    public long pay(int trader, long sum) {
        Trader t = get(trader);
        refuseUnless(sum >= 1 && sum <= t.owes(), new IllegalArgumentException());
        t.paid += sum;
        return t.owes();
    }

    public int look(int trader, int what) {
        Trader t = get(trader);
        Stall stall = stallOf(t);
        return switch (what) {
            case 0 -> t.kind;
            case 1 -> t.trade;
            case 2 -> t.front;
            case 3 -> t.rank;
            case 4 -> t.pitch == null ? NONE : t.pitch.code();
            case 5 -> stall == null ? NONE : stall.spot().code();
            case 6 -> t.came ? 1 : 0;
            case 7 -> isOfWord(t) ? 1 : 0;
            case 8 -> t.slighted ? 1 : 0;
            case 9 -> t.passed ? 1 : 0;
            case 10 -> t.left ? 1 : 0;
            case 11 -> daysThere(t);
            case 12 -> last(t);
            case 13 -> daysAway(t);
            case 14 -> t.wish.size();
            case 15 -> t.any ? 1 : 0;
            case 16 -> t.want ? 1 : 0;
            default -> throw new IllegalArgumentException();
        };
    }

    public long owed(int trader) {
        return get(trader).owes();
    }

    public int stall(int row, int place) {
        for (Stall s : stalls) {
            if (s.spot().row() == row && s.begin() <= place && place <= s.end()) {
                return traders.indexOf(s.of());
            }
        }
        return NONE;
    }

    public int square(int row, int what) {
        if (!isRow(row) || what < 0 || what > 4) {
            return NONE;
        }
        int found = 0;
        for (int i = 0; rows[row] != null && i < rows[row].length; i++) {
            Place p = rows[row][i];
            boolean[] has = {true, p.post, p.drain, p.water, stall(row, i) != NONE};
            found += has[what] ? 1 : 0;
        }
        return found;
    }

    public long count(int what) {
        long fees = traders.stream().mapToLong(t -> t.fees).sum();
        long paid = traders.stream().mapToLong(t -> t.paid).sum();
        long[] all = {trades.size(), traders.size(), time, begun, hour, stalls.size(), fees - paid, fees, paid,
            pitchesLost, pitchesGiven};
        return what < 0 || what >= all.length ? NONE : all[what];
    }

    private static void refuseUnless(boolean fits, RuntimeException otherwise) {
        if (!fits) {
            throw otherwise;
        }
    }

    private void atTime(Integer... times) {
        refuseUnless(List.of(times).contains(time), new IllegalStateException());
    }

    private static boolean isRow(int row) {
        return row >= 0 && row <= 39;
    }

    private boolean isTrade(int trade) {
        return trade >= 0 && trade < trades.size();
    }

    private Trader get(int trader) {
        refuseUnless(trader >= 0 && trader < traders.size(), new IndexOutOfBoundsException());
        return traders.get(trader);
    }

    private static boolean isOfWord(Trader t) {
        return t.toldWord && !t.came;
    }

    private Stall stallOf(Trader t) {
        return stalls.stream().filter(s -> s.of() == t).findFirst().orElse(null);
    }

    private List<Trader> byRank() {
        List<Trader> all = new ArrayList<>(traders);
        all.sort(Comparator.comparingInt(t -> t.rank));
        return all;
    }

    private int daysThere(Trader t) {
        int closed = time == 0 ? begun : begun - 1;
        return (int) t.daysThere.stream().filter(d -> d >= closed - 8).count();
    }

    private static int daysAway(Trader t) {
        int days = t.awayWhereCounted.size();
        return (int) t.awayWhereCounted.subList(Math.max(days - 8, 0), days).stream().filter(away -> away).count();
    }

    private static int last(Trader t) {
        return t.daysStood.isEmpty() ? -1 : t.daysStood.get(t.daysStood.size() - 1);
    }

    private boolean dayCounts(Trader t) {
        return t.pitch != null && isRow(t.pitch.row()) && rows[t.pitch.row()] != null
            && (t.kind != 2 || (t.months >> month) % 2 == 1);
    }

    private boolean isPair(Trader a, Trader b) {
        return pairs.contains(List.of(Math.min(a.trade, b.trade), Math.max(a.trade, b.trade)));
    }

    private int against(Trader t, Spot spot, List<Stall> standing) {
        List<Stall> others = standing.stream().filter(s -> s.of() != t).toList();
        int row = spot.row();
        if (!isRow(row) || rows[row] == null || spot.place() < 0
            || (long) spot.place() + t.front > rows[row].length) {
            return 1;
        }
        Stall own = new Stall(t, spot, hour);
        boolean blocked = false;
        boolean water = false;
        for (int i = own.begin(); i <= own.end(); i++) {
            blocked |= rows[row][i].post || rows[row][i].drain;
            water |= rows[row][i].water;
        }
        List<Stall> here = others.stream().filter(s -> s.spot().row() == row).toList();
        List<Stall> facing = others.stream().filter(s -> s.spot().row() / 2 == row / 2 && s.spot().row() != row).toList();
        boolean cloth = trades.get(t.trade).cloth();
        boolean cook = t.kind == 3;
        boolean[] holds = {
            blocked,
            here.stream().anyMatch(s -> meet(s, own)),
            others.stream().filter(s -> s.of().trade == t.trade).count() >= trades.get(t.trade).limit(),
            here.stream().anyMatch(s -> isPair(s.of(), t) && (s.end() == own.begin() - 1 || s.begin() == own.end() + 1)),
            facing.stream().anyMatch(s -> isPair(s.of(), t) && meet(s, own)),
            cook && !water,
            here.stream().anyMatch(s -> between(s, own) < 6
                && (cook ? trades.get(s.of().trade).cloth() : cloth && s.of().kind == 3)),
            t.kind == 2 && (t.months >> month) % 2 == 0,
            t.kind == 4 && others.stream().anyMatch(s -> s.of().kind == 4)};
        for (int i = 0; i < holds.length; i++) {
            if (holds[i]) {
                return i + 2;
            }
        }
        return 0;
    }

    private static boolean meet(Stall a, Stall b) {
        return a.begin() <= b.end() && b.begin() <= a.end();
    }

    private static int between(Stall a, Stall b) {
        return Math.max(a.begin(), b.begin()) - Math.min(a.end(), b.end()) - 1;
    }

    private Spot goodSpot(Trader t) {
        for (Spot spot : t.wish) {
            if (against(t, spot, stalls) == 0) {
                return spot;
            }
        }
        for (int row = 0; t.any && row < 40; row++) {
            for (int place = 0; rows[row] != null && place < rows[row].length; place++) {
                if (against(t, new Spot(row, place), stalls) == 0) {
                    return new Spot(row, place);
                }
            }
        }
        return null;
    }

    private boolean comes(Trader t, Spot spot) {
        if (against(t, spot, stalls) != 0) {
            return false;
        }
        stalls.add(new Stall(t, spot, hour));
        t.stoodToday = true;
        return true;
    }

    private int goes(Stall stall) {
        stalls.remove(stall);
        int metres = (stall.of().front + 1) / 2;
        int hours = Math.max(1, hour - stall.came());
        int fee = stall.of().kind == 4 ? 0 : metres * hours * trades.get(stall.of().trade).rate();
        stall.of().fees += fee;
        return fee;
    }

    private Comparator<Trader> order() {
        return Comparator.<Trader>comparingInt(t -> t.owes() > 5000 ? 1 : 0)
            .thenComparingInt(t -> -daysThere(t))
            .thenComparingInt(PlainSquare::last)
            .thenComparingInt(t -> t.rank);
    }

    private List<Trader> waitingOnes() {
        List<Trader> all = new ArrayList<>(byRank().stream().filter(t -> t.slighted && isWaiting(t)).toList());
        all.addAll(traders.stream().filter(t -> !t.slighted && isWaiting(t)).sorted(order()).toList());
        return all;
    }

    private boolean isWaiting(Trader t) {
        return t.came && stallOf(t) == null && !t.left;
    }

    private void handOn(Trader loser) {
        Spot pitch = loser.pitch;
        loser.pitch = null;
        loser.awayWhereCounted.clear();
        pitchesLost++;
        traders.stream().filter(t -> t.kind == 1 && t.want && t.front <= loser.front).min(order()).ifPresent(heir -> {
            heir.kind = 0;
            heir.pitch = pitch;
            heir.rank = nextRank++;
            pitchesGiven++;
        });
    }
}
