/**
 * A market square whose superintendent gives out the stalls of each morning.
 * The words in comments (STALL, PITCH, ORDER ..) are those of the document.
 */
public final class MarketSquare {
    public static final int NONE = -1;

    private static final int MOST_ROWS = 40;
    private static final int MOST_PLACES = 200;
    private static final int MOST_TRADES = 20;
    private static final int MOST_TRADERS = 200;
    private static final int MOST_RATE = 1000;
    private static final int MOST_LIMIT = 200;
    private static final int MOST_FRONT = 20;
    private static final int MOST_WISHES = 12;
    private static final int MOST_HOUR = 12;
    private static final int MONTHS = 12;
    private static final int ALL_MONTHS = (1 << MONTHS) - 1;

    private static final int REGULAR = 0;
    private static final int CASUAL = 1;
    private static final int FARMER = 2;
    private static final int COOK = 3;
    private static final int CHARITY = 4;

    private static final int POST = 0;
    private static final int DRAIN = 1;
    private static final int WATER = 2;

    private static final int QUIET = 0;
    private static final int BEGUN = 1;
    private static final int RUNG_ONCE = 2;
    private static final int RUNG_TWICE = 3;

    private static final int COOK_TO_CLOTH = 6;
    private static final long TOLERATED_DEBT = 5000;
    private static final int EIGHT_DAYS = 255;
    private static final int TOO_OFTEN_AWAY = 3;

    private final Row[] rows = new Row[MOST_ROWS];
    private final Trade[] trades = new Trade[MOST_TRADES];
    private final Trader[] traders = new Trader[MOST_TRADERS];
    /** The same TRADERS as in traders, by RANK. */
    private final Trader[] ranked = new Trader[MOST_TRADERS];
    /** Made once and written anew by each call that needs a list of TRADERS. */
    private final Trader[] line = new Trader[MOST_TRADERS];
    private int tradeCount;
    private int traderCount;
    private int nextRank;
    private int time;
    private int days;
    private int month;
    private int hour;
    private int stalls;
    private int charities;
    private long fees;
    private long paid;
    private long lost;
    private long given;

    public MarketSquare() {
        for (int i = 0; i < MOST_ROWS; i++) {
            rows[i] = new Row();
        }
    }

    // ---- the square, the trades, the traders ----

    public void row(int row, int places)
            throws IndexOutOfBoundsException, IllegalArgumentException, IllegalStateException {
        Row r = knownRow(row);
        if (places < 0 || places > MOST_PLACES) {
            throw new IllegalArgumentException("a row has 0 to 200 places");
        }
        needTime(QUIET, QUIET);
        r.lay(places);
    }

    public boolean mark(int row, int place, int what, boolean on)
            throws IndexOutOfBoundsException, IllegalArgumentException, IllegalStateException {
        Row r = knownRow(row);
        if (!r.has(place)) {
            throw new IndexOutOfBoundsException("no such place");
        }
        if (what < POST || what > WATER) {
            throw new IllegalArgumentException("what is 0 to 2");
        }
        needTime(QUIET, QUIET);
        return r.setMark(place, 1 << what, on);
    }

    public int trade(int rate, int limit, boolean cloth)
            throws IllegalArgumentException, UnsupportedOperationException {
        if (rate < 0 || rate > MOST_RATE) {
            throw new IllegalArgumentException("a rate is 0 to 1000");
        }
        if (limit < 1 || limit > MOST_LIMIT) {
            throw new IllegalArgumentException("a limit is 1 to 200");
        }
        if (tradeCount >= MOST_TRADES) {
            throw new UnsupportedOperationException("there are 20 trades");
        }
        int number = tradeCount;
        trades[number] = new Trade(number, rate, limit, cloth);
        tradeCount++;
        return number;
    }

    public boolean pair(int a, int b, boolean on)
            throws IndexOutOfBoundsException, IllegalStateException {
        Trade first = knownTrade(a);
        Trade second = knownTrade(b);
        needTime(QUIET, QUIET);
        if (first.isPairedWith(second) == on) {
            return false;
        }
        first.setPaired(second, on);
        second.setPaired(first, on);
        return true;
    }

    public int trader(int kind, int trade, int front)
            throws IndexOutOfBoundsException, IllegalArgumentException, UnsupportedOperationException {
        Trade of = knownTrade(trade);
        if (kind < REGULAR || kind > CHARITY) {
            throw new IllegalArgumentException("a kind is 0 to 4");
        }
        if (front < 1 || front > MOST_FRONT) {
            throw new IllegalArgumentException("a front is 1 to 20");
        }
        if (traderCount >= MOST_TRADERS) {
            throw new UnsupportedOperationException("there are 200 traders");
        }
        int number = traderCount;
        Trader t = new Trader(number, kind, of, front, nextRank);
        traders[number] = t;
        ranked[number] = t;
        traderCount++;
        nextRank++;
        return number;
    }

    public void pitch(int trader, int row, int place)
            throws IndexOutOfBoundsException, IllegalArgumentException, IllegalStateException {
        Trader t = knownTrader(trader);
        if (t.kind != REGULAR && t.kind != FARMER) {
            throw new IllegalArgumentException("only regulars and farmers have a pitch");
        }
        needTime(QUIET, QUIET);
        t.pitch.put(row, place);
    }

    public void months(int trader, int bits)
            throws IndexOutOfBoundsException, IllegalArgumentException, IllegalStateException {
        Trader t = knownTrader(trader);
        if (t.kind != FARMER) {
            throw new IllegalArgumentException("only farmers have months");
        }
        if (bits < 0 || bits > ALL_MONTHS) {
            throw new IllegalArgumentException("months are 0 to 4095");
        }
        needTime(QUIET, QUIET);
        t.months = bits;
    }

    public int wish(int trader, int row, int place) throws IndexOutOfBoundsException {
        return knownTrader(trader).wish.add(row, place);
    }

    public void wishes(int trader, boolean any) throws IndexOutOfBoundsException {
        knownTrader(trader).wish.empty(any);
    }

    public void want(int trader, boolean on) throws IndexOutOfBoundsException {
        knownTrader(trader).wants = on;
    }

    // ---- the day ----

    public int day(int month) throws IllegalArgumentException, IllegalStateException {
        if (month < 0 || month >= MONTHS) {
            throw new IllegalArgumentException("a month is 0 to 11");
        }
        needTime(QUIET, QUIET);
        this.month = month;
        hour = 0;
        time = BEGUN;
        int number = days;
        days++;
        return number;
    }

    public boolean there(int trader) throws IndexOutOfBoundsException, IllegalStateException {
        Trader t = knownTrader(trader);
        needTime(BEGUN, RUNG_TWICE);
        if (t.today.there) {
            return false;
        }
        t.today.there = true;
        t.today.word = false;
        return true;
    }

    public boolean word(int trader) throws IndexOutOfBoundsException, IllegalStateException {
        Trader t = knownTrader(trader);
        needTime(BEGUN, BEGUN);
        if (t.today.there || t.today.word) {
            return false;
        }
        t.today.word = true;
        return true;
    }

    public int bell() throws IllegalStateException {
        needTime(BEGUN, RUNG_ONCE);
        int came = time == BEGUN ? giveOutPitches() : 0;
        time++;
        return came;
    }

    public void hour(int hour) throws IllegalArgumentException, IllegalStateException {
        if (hour < this.hour || hour > MOST_HOUR) {
            throw new IllegalArgumentException("an hour is not below the one before, nor above 12");
        }
        needTime(BEGUN, RUNG_TWICE);
        this.hour = hour;
    }

    public int close() throws IllegalStateException {
        needTime(RUNG_TWICE, RUNG_TWICE);
        for (int i = 0; i < traderCount; i++) {
            writeUpDay(traders[i]);
        }
        int losers = lineUpLosers();
        for (int i = 0; i < losers; i++) {
            losePitch(line[i]);
        }
        for (int i = 0; i < traderCount; i++) {
            traders[i].today.clear();
        }
        time = QUIET;
        return losers;
    }

    // ---- the list and the wishes ----

    public int why(int trader, int row, int place) throws IndexOutOfBoundsException {
        return against(knownTrader(trader), row, place);
    }

    public int good(int trader) throws IndexOutOfBoundsException {
        return goodSpot(knownTrader(trader));
    }

    public int next() throws IllegalStateException {
        needTime(RUNG_TWICE, RUNG_TWICE);
        int length = lineUpWaiting();
        for (int i = 0; i < length; i++) {
            Trader t = line[i];
            int spot = goodSpot(t);
            if (spot != NONE) {
                open(t, spot / MOST_PLACES, spot % MOST_PLACES);
                return t.number;
            }
            t.today.passed = true;
        }
        return NONE;
    }

    public boolean full() throws IllegalStateException {
        needTime(RUNG_TWICE, RUNG_TWICE);
        for (int i = 0; i < traderCount; i++) {
            Trader t = traders[i];
            if (t.isWaiting() && goodSpot(t) != NONE) {
                return false;
            }
        }
        return true;
    }

    public int waiting(int k) {
        if (time != RUNG_TWICE) {
            return NONE;
        }
        int length = lineUpWaiting();
        return k >= 0 && k < length ? line[k].number : NONE;
    }

    // ---- stalls that stand ----

    public boolean move(int trader, int row, int place)
            throws IndexOutOfBoundsException, IllegalStateException {
        Trader t = knownTrader(trader);
        needTime(RUNG_ONCE, RUNG_TWICE);
        if (!t.today.stall.isSet || against(t, row, place) != 0) {
            return false;
        }
        takeDown(t);
        setUp(t, row, place);
        return true;
    }

    public boolean change(int trader, int other)
            throws IndexOutOfBoundsException, IllegalStateException {
        Trader a = knownTrader(trader);
        Trader b = knownTrader(other);
        needTime(RUNG_ONCE, RUNG_TWICE);
        if (a == b || !a.today.stall.isSet || !b.today.stall.isSet) {
            return false;
        }
        return swapIfBothSuit(a, b);
    }

    public int leave(int trader) throws IndexOutOfBoundsException, IllegalStateException {
        Trader t = knownTrader(trader);
        needTime(RUNG_ONCE, RUNG_TWICE);
        if (!t.today.stall.isSet) {
            return NONE;
        }
        t.today.left = true;
        return chargeAndTakeDown(t);
    }

    // ---- money, and looking ----

    public long pay(int trader, long sum) throws IndexOutOfBoundsException, IllegalArgumentException {
        Trader t = knownTrader(trader);
        if (sum < 1 || sum > t.owed) {
            throw new IllegalArgumentException("a sum is 1 to what is owed");
        }
        t.owed -= sum;
        paid += sum;
        return t.owed;
    }

    public int look(int trader, int what) throws IndexOutOfBoundsException, IllegalArgumentException {
        Trader t = knownTrader(trader);
        switch (what) {
            case 0: return t.kind;
            case 1: return t.trade.number;
            case 2: return t.front;
            case 3: return t.rank;
            case 4: return t.pitch.code();
            case 5: return t.today.stall.code();
            case 6: return oneIf(t.today.there);
            case 7: return oneIf(t.today.word);
            case 8: return oneIf(t.today.slighted);
            case 9: return oneIf(t.today.passed);
            case 10: return oneIf(t.today.left);
            case 11: return Integer.bitCount(t.thereDays);
            case 12: return t.last;
            case 13: return Integer.bitCount(t.awayDays);
            case 14: return t.wish.length;
            case 15: return oneIf(t.wish.any);
            case 16: return oneIf(t.wants);
            default: throw new IllegalArgumentException("what is 0 to 16");
        }
    }

    public long owed(int trader) throws IndexOutOfBoundsException {
        return knownTrader(trader).owed;
    }

    public int stall(int row, int place) {
        Row r = rowOrNull(row);
        Trader holder = r == null ? null : r.holderAt(place);
        return holder == null ? NONE : holder.number;
    }

    public int square(int row, int what) {
        Row r = rowOrNull(row);
        if (r == null) {
            return NONE;
        }
        switch (what) {
            case 0: return r.places;
            case 1: return r.countMarked(1 << POST);
            case 2: return r.countMarked(1 << DRAIN);
            case 3: return r.countMarked(1 << WATER);
            case 4: return r.countTaken();
            default: return NONE;
        }
    }

    public long count(int what) {
        switch (what) {
            case 0: return tradeCount;
            case 1: return traderCount;
            case 2: return time;
            case 3: return days;
            case 4: return hour;
            case 5: return stalls;
            case 6: return fees - paid;
            case 7: return fees;
            case 8: return paid;
            case 9: return lost;
            case 10: return given;
            default: return NONE;
        }
    }

    // ---- what calls need ----

    private void needTime(int from, int to) {
        if (time < from || time > to) {
            throw new IllegalStateException("not at this time");
        }
    }

    private Row rowOrNull(int row) {
        return row >= 0 && row < MOST_ROWS ? rows[row] : null;
    }

    private Row knownRow(int row) {
        Row r = rowOrNull(row);
        if (r == null) {
            throw new IndexOutOfBoundsException("no such row");
        }
        return r;
    }

    private Trade knownTrade(int trade) {
        Trade t = trade >= 0 && trade < MOST_TRADES ? trades[trade] : null;
        if (t == null) {
            throw new IndexOutOfBoundsException("no such trade");
        }
        return t;
    }

    private Trader knownTrader(int trader) {
        Trader t = trader >= 0 && trader < MOST_TRADERS ? traders[trader] : null;
        if (t == null) {
            throw new IndexOutOfBoundsException("no such trader");
        }
        return t;
    }

    private static int oneIf(boolean yes) {
        return yes ? 1 : 0;
    }

    // ---- what is against a stall ----

    private int against(Trader t, int rowNumber, int place) {
        Row row = rowOrNull(rowNumber);
        if (row == null || !row.hasAll(place, t.front)) {
            return 1;
        }
        if (row.isMarked(place, t.front, 1 << POST | 1 << DRAIN)) {
            return 2;
        }
        if (row.isTakenByOther(t, place)) {
            return 3;
        }
        if (isTradeAtLimit(t)) {
            return 4;
        }
        if (isPairedBeside(row, t, place)) {
            return 5;
        }
        if (isPairedAcross(rowOrNull(rowNumber ^ 1), t, place)) {
            return 6;
        }
        if (t.kind == COOK && !row.isMarked(place, t.front, 1 << WATER)) {
            return 7;
        }
        if (isCookNearCloth(row, t, place)) {
            return 8;
        }
        if (isOutOfMonth(t)) {
            return 9;
        }
        return isSecondCharity(t) ? 10 : 0;
    }

    private static boolean isTradeAtLimit(Trader t) {
        return t.trade.stalls - oneIf(t.today.stall.isSet) >= t.trade.limit;
    }

    /** As PLACES that others have are ruled out before, who has the next PLACE ends or begins there. */
    private static boolean isPairedBeside(Row row, Trader t, int place) {
        return isPairedStall(t, row.holderAt(place - 1)) || isPairedStall(t, row.holderAt(place + t.front));
    }

    private static boolean isPairedAcross(Row facing, Trader t, int place) {
        if (facing == null) {
            return false;
        }
        for (int k = 0; k < t.front; k++) {
            if (isPairedStall(t, facing.holderAt(place + k))) {
                return true;
            }
        }
        return false;
    }

    private static boolean isPairedStall(Trader t, Trader holder) {
        return holder != null && holder != t && t.trade.isPairedWith(holder.trade);
    }

    private static boolean isCookNearCloth(Row row, Trader t, int place) {
        if (t.kind != COOK && !t.trade.cloth) {
            return false;
        }
        for (int k = -COOK_TO_CLOTH; k < t.front + COOK_TO_CLOTH; k++) {
            Trader holder = row.holderAt(place + k);
            if (holder != null && holder != t && doesSpoil(t, holder)) {
                return true;
            }
        }
        return false;
    }

    /** A COOK of CLOTH minds CLOTH alone, and so may come to a COOK who could not come to them. */
    private static boolean doesSpoil(Trader t, Trader holder) {
        return t.kind == COOK ? holder.trade.cloth : holder.kind == COOK;
    }

    private boolean isOutOfMonth(Trader t) {
        return t.kind == FARMER && !t.isOfMonth(month);
    }

    private boolean isSecondCharity(Trader t) {
        return t.kind == CHARITY && charities - oneIf(t.today.stall.isSet) > 0;
    }

    // ---- good spots ----

    private int goodSpot(Trader t) {
        // These hold wherever the STALL would be; asked first, they spare the way through the square.
        if (isTradeAtLimit(t) || isOutOfMonth(t) || isSecondCharity(t)) {
            return NONE;
        }
        for (int i = 0; i < t.wish.length; i++) {
            if (against(t, t.wish.rows[i], t.wish.places[i]) == 0) {
                return t.wish.rows[i] * MOST_PLACES + t.wish.places[i];
            }
        }
        return t.wish.any ? firstSpotOfSquare(t) : NONE;
    }

    private int firstSpotOfSquare(Trader t) {
        for (int i = 0; i < MOST_ROWS; i++) {
            Row row = rows[i];
            int open = 0;
            for (int end = 0; end < row.places; end++) {
                // Where fewer PLACES than the FRONT lie open up to here, no STALL can end here.
                open = row.isOpenFor(t, end) ? open + 1 : 0;
                int place = end - t.front + 1;
                if (open >= t.front && against(t, i, place) == 0) {
                    return i * MOST_PLACES + place;
                }
            }
        }
        return NONE;
    }

    // ---- lists of traders ----

    private int lineUpWaiting() {
        int length = 0;
        for (int i = 0; i < traderCount; i++) {
            Trader t = ranked[i];
            if (t.isWaiting()) {
                insert(t, length);
                length++;
            }
        }
        return length;
    }

    private void insert(Trader t, int length) {
        int at = length;
        while (at > 0 && isAhead(t, line[at - 1])) {
            line[at] = line[at - 1];
            at--;
        }
        line[at] = t;
    }

    private static boolean isAhead(Trader a, Trader b) {
        if (a.today.slighted != b.today.slighted) {
            return a.today.slighted;
        }
        return a.today.slighted ? a.rank < b.rank : isAheadUnslighted(a, b);
    }

    private static boolean isAheadUnslighted(Trader a, Trader b) {
        if (a.isInDebt() != b.isInDebt()) {
            return b.isInDebt();
        }
        int daysOfA = Integer.bitCount(a.thereDays);
        int daysOfB = Integer.bitCount(b.thereDays);
        if (daysOfA != daysOfB) {
            return daysOfA > daysOfB;
        }
        return a.last != b.last ? a.last < b.last : a.rank < b.rank;
    }

    // ---- stalls that come and go ----

    private int giveOutPitches() {
        int came = 0;
        for (int i = 0; i < traderCount; i++) {
            Trader t = ranked[i];
            if (!t.pitch.isSet || !t.today.there) {
                continue;
            }
            if (against(t, t.pitch.row, t.pitch.place) == 0) {
                open(t, t.pitch.row, t.pitch.place);
                came++;
            } else {
                t.today.slighted = true;
            }
        }
        return came;
    }

    private void open(Trader t, int row, int place) {
        t.today.cameAt = hour;
        setUp(t, row, place);
    }

    private void setUp(Trader t, int row, int place) {
        Row r = rowOrNull(row);
        if (r == null) {
            return;
        }
        r.setHolder(place, t.front, t);
        t.today.stall.put(row, place);
        t.trade.stalls++;
        stalls++;
        charities += oneIf(t.kind == CHARITY);
    }

    private void takeDown(Trader t) {
        Row r = rowOrNull(t.today.stall.row);
        if (r == null) {
            return;
        }
        r.setHolder(t.today.stall.place, t.front, null);
        t.today.stall.remove();
        t.trade.stalls--;
        stalls--;
        charities -= oneIf(t.kind == CHARITY);
    }

    private boolean swapIfBothSuit(Trader a, Trader b) {
        int rowOfA = a.today.stall.row;
        int placeOfA = a.today.stall.place;
        int rowOfB = b.today.stall.row;
        int placeOfB = b.today.stall.place;
        takeDown(a);
        takeDown(b);
        if (against(a, rowOfB, placeOfB) == 0) {
            setUp(a, rowOfB, placeOfB);
            if (against(b, rowOfA, placeOfA) == 0) {
                setUp(b, rowOfA, placeOfA);
                return true;
            }
            takeDown(a);
        }
        setUp(a, rowOfA, placeOfA);
        setUp(b, rowOfB, placeOfB);
        return false;
    }

    private int chargeAndTakeDown(Trader t) {
        int fee = feeOf(t);
        t.owed += fee;
        fees += fee;
        takeDown(t);
        return fee;
    }

    private int feeOf(Trader t) {
        if (t.kind == CHARITY) {
            return 0;
        }
        int metres = (t.front + 1) / 2;
        int hours = Math.max(hour - t.today.cameAt, 1);
        return metres * hours * t.trade.rate;
    }

    // ---- the end of a day ----

    private void writeUpDay(Trader t) {
        Today today = t.today;
        if (today.stall.isSet || today.left) {
            t.last = days - 1;
        }
        if (today.stall.isSet) {
            chargeAndTakeDown(t);
        }
        t.thereDays = (t.thereDays << 1 | oneIf(today.there)) & EIGHT_DAYS;
        if (couldStand(t)) {
            today.away = !today.there && !today.word;
            t.awayDays = (t.awayDays << 1 | oneIf(today.away)) & EIGHT_DAYS;
        }
    }

    private boolean couldStand(Trader t) {
        if (!t.pitch.isSet || isOutOfMonth(t)) {
            return false;
        }
        Row row = rowOrNull(t.pitch.row);
        return row != null && row.places > 0;
    }

    /** All losers are found before the first PITCH goes on, as that changes the RANKS. */
    private int lineUpLosers() {
        int length = 0;
        for (int i = 0; i < traderCount; i++) {
            Trader t = ranked[i];
            if (t.today.away && Integer.bitCount(t.awayDays) >= TOO_OFTEN_AWAY) {
                line[length] = t;
                length++;
            }
        }
        return length;
    }

    private void losePitch(Trader loser) {
        int row = loser.pitch.row;
        int place = loser.pitch.place;
        loser.pitch.remove();
        loser.awayDays = 0;
        lost++;
        Trader heir = firstHeir(loser.front);
        if (heir != null) {
            heir.kind = REGULAR;
            heir.pitch.put(row, place);
            rankLast(heir);
            given++;
        }
    }

    private Trader firstHeir(int mostFront) {
        Trader first = null;
        for (int i = 0; i < traderCount; i++) {
            Trader t = traders[i];
            boolean may = t.kind == CASUAL && t.wants && !t.pitch.isSet && t.front <= mostFront;
            if (may && (first == null || isAheadUnslighted(t, first))) {
                first = t;
            }
        }
        return first;
    }

    private void rankLast(Trader t) {
        int length = 0;
        for (int i = 0; i < traderCount; i++) {
            Trader other = ranked[i];
            if (other != t) {
                ranked[length] = other;
                length++;
            }
        }
        if (length < MOST_TRADERS) {
            ranked[length] = t;
        }
        t.rank = nextRank;
        nextRank++;
    }

    // ---- what the square is made of ----

    private static final class Row {
        final int[] marks = new int[MOST_PLACES];
        final Trader[] holders = new Trader[MOST_PLACES];
        /** 0 in a ROW that is missing. */
        int places;

        void lay(int count) {
            places = count;
            for (int i = 0; i < MOST_PLACES; i++) {
                marks[i] = 0;
            }
        }

        boolean has(int place) {
            return place >= 0 && place < places;
        }

        boolean hasAll(int place, int front) {
            return place >= 0 && place <= places - front;
        }

        boolean setMark(int place, int bit, boolean on) {
            if (!has(place) || (marks[place] & bit) != 0 == on) {
                return false;
            }
            marks[place] ^= bit;
            return true;
        }

        boolean isMarked(int place, int front, int bits) {
            for (int k = 0; k < front; k++) {
                if (has(place + k) && (marks[place + k] & bits) != 0) {
                    return true;
                }
            }
            return false;
        }

        Trader holderAt(int place) {
            return has(place) ? holders[place] : null;
        }

        void setHolder(int place, int front, Trader holder) {
            for (int k = 0; k < front; k++) {
                if (has(place + k)) {
                    holders[place + k] = holder;
                }
            }
        }

        boolean isTakenByOther(Trader t, int place) {
            for (int k = 0; k < t.front; k++) {
                Trader holder = holderAt(place + k);
                if (holder != null && holder != t) {
                    return true;
                }
            }
            return false;
        }

        boolean isOpenFor(Trader t, int place) {
            Trader holder = holderAt(place);
            return (holder == null || holder == t) && !isMarked(place, 1, 1 << POST | 1 << DRAIN);
        }

        int countMarked(int bit) {
            int found = 0;
            for (int i = 0; i < places; i++) {
                found += oneIf((marks[i] & bit) != 0);
            }
            return found;
        }

        int countTaken() {
            int found = 0;
            for (int i = 0; i < places; i++) {
                found += oneIf(holders[i] != null);
            }
            return found;
        }
    }

    private static final class Trade {
        final int number;
        final int rate;
        final int limit;
        final boolean cloth;
        /** A bit for each TRADE that this one is PAIRED with. */
        int pairs;
        /** How many STALLS of it stand. */
        int stalls;

        Trade(int number, int rate, int limit, boolean cloth) {
            this.number = number;
            this.rate = rate;
            this.limit = limit;
            this.cloth = cloth;
        }

        boolean isPairedWith(Trade other) {
            return (pairs >> other.number & 1) == 1;
        }

        void setPaired(Trade other, boolean on) {
            int bit = 1 << other.number;
            pairs = on ? pairs | bit : pairs & ~bit;
        }
    }

    private static final class Trader {
        final int number;
        final Trade trade;
        final int front;
        final Spot pitch = new Spot();
        final Wish wish = new Wish();
        final Today today = new Today();
        int kind;
        int rank;
        int months = ALL_MONTHS;
        boolean wants;
        /** A bit for each of the latest 8 closed days, the latest one lowest. */
        int thereDays;
        /** A bit for each of the latest 8 days that COUNTED, the latest one lowest. */
        int awayDays;
        int last = NONE;
        long owed;

        Trader(int number, int kind, Trade trade, int front, int rank) {
            this.number = number;
            this.kind = kind;
            this.trade = trade;
            this.front = front;
            this.rank = rank;
        }

        boolean isWaiting() {
            return today.there && !today.stall.isSet && !today.left;
        }

        boolean isInDebt() {
            return owed > TOLERATED_DEBT;
        }

        boolean isOfMonth(int month) {
            return (months >> month & 1) == 1;
        }
    }

    /** What holds of a TRADER on one day alone. */
    private static final class Today {
        final Spot stall = new Spot();
        int cameAt;
        boolean there;
        boolean word;
        boolean slighted;
        boolean passed;
        boolean left;
        /** Known at the end of the day alone. */
        boolean away;

        /** The STALL is gone before: it goes with its FEE. */
        void clear() {
            there = false;
            word = false;
            slighted = false;
            passed = false;
            left = false;
            away = false;
        }
    }

    private static final class Spot {
        boolean isSet;
        int row;
        int place;

        void put(int atRow, int atPlace) {
            isSet = true;
            row = atRow;
            place = atPlace;
        }

        void remove() {
            isSet = false;
        }

        int code() {
            return isSet ? row * MOST_PLACES + place : NONE;
        }
    }

    private static final class Wish {
        final int[] rows = new int[MOST_WISHES];
        final int[] places = new int[MOST_WISHES];
        int length;
        boolean any;

        int add(int row, int place) {
            if (length >= MOST_WISHES) {
                return NONE;
            }
            rows[length] = row;
            places[length] = place;
            length++;
            return length;
        }

        void empty(boolean withAny) {
            length = 0;
            any = withAny;
        }
    }
}
