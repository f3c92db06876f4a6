import java.util.Arrays;

/**
 * A map paced by strangers: what walkers tell of the legs between the places of a town,
 * what of it closes, and what can't be right.
 */
public final class PacedMap {
    public static final int NONE = -1;

    private static final int FINE = 0;
    private static final int WRONG_NUMBER = 1;
    private static final int TRAY_MISSING = 2;
    private static final int NOT_IN_TRAY = 3;
    private static final int ONE_TOO_MANY = 4;
    private static final int WRONG_IN_TRAY = 5;
    private static final int NONE_SUCH = 6;
    private static final int CANNOT_BE = 7;
    private static final int UNLIKE_SORTS = 8;
    private static final int TEXT_FAULT = 9;

    private static final int TRAYS = 4;
    private static final int TRAY_ROOM = 60;
    private static final int TAPE_ROOM = 900;
    private static final int DAYS_ROOM = 300;
    private static final int PLACES = 7;
    private static final int WALKERS = 4;
    private static final int LEGS = 12;
    private static final int FAULTS = 24;
    private static final int MOST_ODDS = 16;
    private static final int MOST_PACES = 99;
    private static final int MARKS = 3;
    private static final int LAST_SEED = 9999;
    private static final int MOST_SEEDS = 20;
    private static final int MOST_CORNERS = 20;
    private static final int MOST_TURNS = 4;

    private final Tray[] trays = new Tray[TRAYS];
    private final Text tape = new Text();
    private final Town town = new Town();
    private final Town spareTown = new Town();
    private final Days days = new Days();
    private final Days spareDays = new Days();
    private final Town[] markedTowns = new Town[MARKS];
    private final Days[] markedDays = new Days[MARKS];
    private final Chart chart = new Chart();
    private final Doubts doubts = new Doubts();
    private final Paths paths = new Paths();
    private final Game match = new Game();
    private final Life life = new Life();
    private final int[] livedLatest = new int[Life.TOLD];
    private boolean hasLived = false;
    private int marks = 0;
    private int status = FINE;
    private long top = 0;
    private long bottom = 1;

    public PacedMap() {
        for (int i = 0; i < TRAYS; i++) {
            trays[i] = new Tray();
        }
        for (int i = 0; i < MARKS; i++) {
            markedTowns[i] = new Town();
            markedDays[i] = new Days();
        }
    }

    public int status() {
        return status;
    }

    public long top() {
        return top;
    }

    public long bottom() {
        return bottom;
    }

    // ---- TRAYS

    public boolean tray(int tray, int sort, int many) {
        if (!within(tray, TRAYS) || !within(sort, Tray.SORTS) || !within(many, TRAY_ROOM + 1)) {
            return refuse(WRONG_NUMBER);
        }
        trays[tray].begin(sort, many);
        return accept();
    }

    public boolean write(int tray, int place, long v) {
        int why = spotFault(tray, place);
        if (why != FINE) {
            return refuse(why);
        }
        trays[tray].put(place, v);
        return accept();
    }

    public long read(int tray, int place) {
        int why = spotFault(tray, place);
        if (why != FINE) {
            return fail(why);
        }
        status = FINE;
        return trays[tray].numbers[place];
    }

    public boolean pour(int from, int place, int to, int at, int many) {
        if (!within(from, TRAYS) || !within(to, TRAYS) || place < 0 || at < 0 || many < 0) {
            return refuse(WRONG_NUMBER);
        }
        Tray source = trays[from];
        Tray goal = trays[to];
        if (!source.there || !goal.there) {
            return refuse(TRAY_MISSING);
        }
        if (source.sort != goal.sort) {
            return refuse(UNLIKE_SORTS);
        }
        if (!source.holds(place, many) || !goal.holds(at, many)) {
            return refuse(NOT_IN_TRAY);
        }
        System.arraycopy(source.numbers, place, goal.numbers, at, many);
        return accept();
    }

    // ---- texts

    public int feed(int a, int b, int c, int d, int e) {
        if (tape.fed + 20 > TAPE_ROOM) {
            return NONE;
        }
        tape.feedFour(a);
        tape.feedFour(b);
        tape.feedFour(c);
        tape.feedFour(d);
        tape.feedFour(e);
        return tape.fed;
    }

    public int town(int n) {
        if (n < 0 || n > tape.fed) {
            return fail(WRONG_NUMBER);
        }
        tape.begin(n);
        if (!new TownText(tape, spareTown).parse()) {
            return fail(TEXT_FAULT);
        }
        town.copyFrom(spareTown);
        days.clear();
        return answer(town.legs);
    }

    public int days(int n) {
        if (n < 0 || n > tape.fed || n > DAYS_ROOM) {
            return fail(WRONG_NUMBER);
        }
        tape.begin(n);
        if (!new DaysText(tape, town, spareDays).parse()) {
            return fail(TEXT_FAULT);
        }
        days.copyFrom(spareDays);
        return answer(days.steps);
    }

    public int fault(int what) {
        if (what == 0) {
            return tape.faultKind;
        }
        return what == 1 ? tape.faultPlace : NONE;
    }

    public int told(int what) {
        switch (what) {
            case 0:
                return answer(town.places);
            case 1:
                return answer(town.walkers);
            case 2:
                return answer(town.legs);
            case 3:
                return answer(town.odds);
            case 4:
                return town.stand == NONE ? fail(NONE_SUCH) : answer(town.stand);
            case 5:
                return answer(town.gone);
            case 7:
                return answer(town.struck);
            case 6:
            case 8:
            case 9:
            case 10:
            case 11:
                return answer(toldByChart(what));
            default:
                return fail(WRONG_NUMBER);
        }
    }

    public int walker(int walker, int what) {
        if (!within(walker, town.walkers)) {
            return fail(WRONG_NUMBER);
        }
        int fault = town.faults[walker];
        switch (what) {
            case 0:
                return answer(Town.turnedBy(fault));
            case 1:
                return answer(Town.isLeft(fault) ? 1 : 0);
            case 2:
                return answer(Town.strideBy(fault));
            case 3:
                return answer(fault);
            case 4:
                return answer(town.legsToldBy(walker));
            default:
                return fail(WRONG_NUMBER);
        }
    }

    public int leg(int leg, int what) {
        if (!within(leg, town.legs)) {
            return fail(WRONG_NUMBER);
        }
        switch (what) {
            case 0:
                return answer(town.tellers[leg]);
            case 1:
                return answer(town.from[leg]);
            case 2:
                return answer(town.to[leg]);
            case 3:
                return answer(town.east[leg]);
            case 4:
                return answer(town.north[leg]);
            case 5:
                return answer(town.yardsEast(leg));
            case 6:
                return answer(town.yardsNorth(leg));
            case 7:
                chart.draw(town);
                return chart.canMiss(town, leg) ? answer(chart.missOf(town, leg)) : fail(NONE_SUCH);
            default:
                return fail(WRONG_NUMBER);
        }
    }

    public int place(int place, int what) {
        if (!within(place, town.places) || !within(what, 2)) {
            return fail(WRONG_NUMBER);
        }
        chart.draw(town);
        if (!chart.lies(place)) {
            return fail(NONE_SUCH);
        }
        return answer(what == 0 ? chart.x[place] : chart.y[place]);
    }

    public int apart(int place, int other) {
        if (!within(place, town.places) || !within(other, town.places)) {
            return fail(WRONG_NUMBER);
        }
        chart.draw(town);
        if (!chart.lies(place) || !chart.lies(other)) {
            return fail(NONE_SUCH);
        }
        return answer(Math.abs(chart.x[place] - chart.x[other])
            + Math.abs(chart.y[place] - chart.y[other]));
    }

    public int joined(int place, int other) {
        if (!within(place, town.places) || !within(other, town.places)) {
            return fail(WRONG_NUMBER);
        }
        chart.trace(town, town.legsThere());
        return answer(chart.sameParts(place, other) ? 1 : 0);
    }

    // ---- what is done

    public int pace(int walker, int place, int other, int east, int north) {
        if (!within(walker, town.walkers) || !twoPlaces(place, other)
            || !canBePaces(east) || !canBePaces(north)) {
            return fail(WRONG_NUMBER);
        }
        if (town.legs >= LEGS) {
            return fail(ONE_TOO_MANY);
        }
        int leg = town.addLeg(walker, place, other);
        town.east[leg] = east;
        town.north[leg] = north;
        return answer(leg);
    }

    public boolean tell(int leg, int east, int north) {
        if (!within(leg, town.legs) || !canBePaces(east) || !canBePaces(north)) {
            return refuse(WRONG_NUMBER);
        }
        town.east[leg] = east;
        town.north[leg] = north;
        return accept();
    }

    public int strike(int leg) {
        if (!within(leg, town.legs)) {
            return fail(WRONG_NUMBER);
        }
        if (!town.strikeLeg(leg)) {
            return fail(CANNOT_BE);
        }
        return answer(Integer.bitCount(town.struck));
    }

    public int restore(int leg) {
        if (!within(leg, town.legs)) {
            return fail(WRONG_NUMBER);
        }
        if (!town.restoreLeg(leg)) {
            return fail(CANNOT_BE);
        }
        return answer(Integer.bitCount(town.struck));
    }

    public int believe(int walker, int fault) {
        if (!within(walker, town.walkers) || !within(fault, FAULTS)) {
            return fail(WRONG_NUMBER);
        }
        int old = town.faults[walker];
        town.faults[walker] = fault;
        return answer(old);
    }

    public int settle() {
        if (town.places >= PLACES) {
            return fail(ONE_TOO_MANY);
        }
        return answer(town.addPlace(Town.NAMELESS));
    }

    public int go(int leg) {
        if (!within(leg, town.legs)) {
            return fail(WRONG_NUMBER);
        }
        if (!town.walkAlong(leg)) {
            return fail(CANNOT_BE);
        }
        return answer(town.stand);
    }

    public boolean rule(int odds) {
        if (!within(odds, MOST_ODDS + 1)) {
            return refuse(WRONG_NUMBER);
        }
        town.odds = odds;
        return accept();
    }

    // ---- what can't be right

    public int out() {
        doubts.findOut(town);
        return doubts.outSet == NONE ? fail(NONE_SUCH) : answer(Integer.bitCount(doubts.outSet));
    }

    public int outSet() {
        doubts.findOut(town);
        return doubts.outSet == NONE ? fail(NONE_SUCH) : answer(doubts.outSet);
    }

    public int fits(int set) {
        if (!canBeWalkers(set)) {
            return fail(WRONG_NUMBER);
        }
        doubts.findFits(town, set);
        return answer(doubts.ways);
    }

    public int firstFault(int set, int walker) {
        if (!canBeWalkers(set) || !within(walker, town.walkers)) {
            return fail(WRONG_NUMBER);
        }
        doubts.findFits(town, set);
        if (doubts.ways == 0) {
            return fail(NONE_SUCH);
        }
        if (!has(set, walker)) {
            return fail(CANNOT_BE);
        }
        return answer(doubts.firstOf(walker));
    }

    public boolean oddsThat(int set, int walker, int fault) {
        if (!canBeWalkers(set) || !within(walker, town.walkers) || !within(fault, FAULTS)) {
            return refuse(WRONG_NUMBER);
        }
        doubts.findFits(town, set);
        if (doubts.ways == 0) {
            return refuse(NONE_SUCH);
        }
        if (!has(set, walker)) {
            return refuse(CANNOT_BE);
        }
        return acceptFraction(doubts.waysWith(walker, fault), doubts.ways);
    }

    public int ask(int set, int what) {
        if (!canBeWalkers(set) || !within(what, 2)) {
            return fail(WRONG_NUMBER);
        }
        doubts.findFits(town, set);
        if (doubts.ways < 2 || !doubts.findBestPair(town)) {
            return fail(NONE_SUCH);
        }
        return answer(what == 0 ? doubts.askFirst : doubts.askSecond);
    }

    // ---- ways, areas

    public int way(int place, int other) {
        if (!twoPlaces(place, other)) {
            return fail(WRONG_NUMBER);
        }
        paths.find(town, place, other);
        return paths.yards == NONE ? fail(NONE_SUCH) : answer(paths.yards);
    }

    public int wayAt(int place, int other, int k) {
        if (!twoPlaces(place, other) || k < 0) {
            return fail(WRONG_NUMBER);
        }
        paths.find(town, place, other);
        if (paths.yards == NONE || k >= paths.many) {
            return fail(NONE_SUCH);
        }
        return answer(paths.best[k]);
    }

    public boolean area(int tray, int n) {
        if (!within(tray, TRAYS) || n < 3 || n > MOST_CORNERS) {
            return refuse(WRONG_NUMBER);
        }
        Tray corners = trays[tray];
        if (!corners.there) {
            return refuse(TRAY_MISSING);
        }
        if (!corners.holds(0, n)) {
            return refuse(NOT_IN_TRAY);
        }
        int why = cornersFault(corners, n);
        if (why != FINE) {
            return refuse(why);
        }
        return acceptFraction(Math.abs(twiceArea(corners, n)), 2);
    }

    // ---- games, odds

    public int game(int n) {
        if (!within(n, MOST_TURNS + 1)) {
            return fail(WRONG_NUMBER);
        }
        match.begin(town, n);
        return answer(match.endOfBestPlay());
    }

    public int moveOf(int n) {
        if (n == 0 || !within(n, MOST_TURNS + 1)) {
            return fail(WRONG_NUMBER);
        }
        match.begin(town, n);
        int leg = match.firstBestLeg();
        return leg == NONE ? fail(NONE_SUCH) : answer(leg);
    }

    public boolean misread(int n, int k) {
        if (!within(n, LEGS + 1) || !within(k, LEGS + 1)) {
            return refuse(WRONG_NUMBER);
        }
        long ways = 0;
        for (int many = k; many <= n; many++) {
            ways += choose(n, many) * power(town.odds, many) * power(MOST_ODDS - town.odds, n - many);
        }
        return acceptFraction(ways, power(MOST_ODDS, n));
    }

    public boolean share(int walker) {
        if (!within(walker, town.walkers)) {
            return refuse(WRONG_NUMBER);
        }
        int all = town.yardsOf(town.legsThere());
        if (all == 0) {
            return refuse(NONE_SUCH);
        }
        return acceptFraction(town.yardsOf(town.legsThere() & town.legsToldBy(walker)), all);
    }

    public int copyPlaces(int tray) {
        if (!within(tray, TRAYS)) {
            return fail(WRONG_NUMBER);
        }
        Tray goal = trays[tray];
        if (!goal.there) {
            return fail(TRAY_MISSING);
        }
        if (!goal.holds(0, 2 * town.places)) {
            return fail(NOT_IN_TRAY);
        }
        chart.draw(town);
        if (Integer.bitCount(chart.liesSet(town)) < town.places) {
            return fail(NONE_SUCH);
        }
        for (int place = 0; place < town.places; place++) {
            goal.put(2 * place, chart.x[place]);
            goal.put(2 * place + 1, chart.y[place]);
        }
        return answer(town.places);
    }

    // ---- DAYS

    public int live(int seed) {
        if (!within(seed, LAST_SEED + 1)) {
            return fail(WRONG_NUMBER);
        }
        if (!days.there) {
            return fail(NONE_SUCH);
        }
        life.run(town, days, seed);
        System.arraycopy(life.counts, 0, livedLatest, 0, Life.TOLD);
        hasLived = true;
        return answer(life.steps);
    }

    public int lived(int what) {
        if (!within(what, Life.TOLD)) {
            return fail(WRONG_NUMBER);
        }
        return hasLived ? answer(livedLatest[what]) : fail(NONE_SUCH);
    }

    public boolean mean(int seed, int many) {
        if (!within(seed, LAST_SEED + 1) || many < 1 || many > MOST_SEEDS
            || seed + many - 1 > LAST_SEED) {
            return refuse(WRONG_NUMBER);
        }
        if (!days.there) {
            return refuse(NONE_SUCH);
        }
        long lying = 0;
        for (int i = 0; i < many; i++) {
            spareTown.copyFrom(town);
            life.run(spareTown, days, seed + i);
            chart.draw(spareTown);
            lying += Integer.bitCount(chart.liesSet(spareTown));
        }
        return acceptFraction(lying, many);
    }

    // ---- MARKS

    public int mark() {
        if (marks >= MARKS) {
            return fail(ONE_TOO_MANY);
        }
        markedTowns[marks].copyFrom(town);
        markedDays[marks].copyFrom(days);
        marks++;
        return answer(marks);
    }

    public int undo() {
        if (marks <= 0) {
            return fail(NONE_SUCH);
        }
        marks--;
        town.copyFrom(markedTowns[marks]);
        days.copyFrom(markedDays[marks]);
        return answer(marks);
    }

    // ---- helpers of the calls

    private int fail(int why) {
        status = why;
        return NONE;
    }

    private boolean refuse(int why) {
        status = why;
        return false;
    }

    private int answer(int value) {
        status = FINE;
        return value;
    }

    private boolean accept() {
        status = FINE;
        return true;
    }

    private boolean acceptFraction(long up, long down) {
        long divisor = commonDivisor(up, down);
        if (divisor > 0) {
            top = up / divisor;
            bottom = down / divisor;
        }
        return accept();
    }

    private static long commonDivisor(long up, long down) {
        long a = up;
        long b = down;
        // Euclid needs fewer than a hundred rounds for any two longs.
        for (int round = 0; round < 100 && b != 0; round++) {
            long rest = a % b;
            a = b;
            b = rest;
        }
        return a;
    }

    private static boolean within(int number, int many) {
        return number >= 0 && number < many;
    }

    private static boolean has(int set, int number) {
        return ((set >> number) & 1) != 0;
    }

    private static boolean canBePaces(int paces) {
        return paces >= -MOST_PACES && paces <= MOST_PACES;
    }

    private boolean twoPlaces(int place, int other) {
        return within(place, town.places) && within(other, town.places) && place != other;
    }

    private boolean canBeWalkers(int set) {
        return within(set, 1 << town.walkers) && Integer.bitCount(set) <= 2;
    }

    private int spotFault(int tray, int place) {
        if (!within(tray, TRAYS)) {
            return WRONG_NUMBER;
        }
        if (!trays[tray].there) {
            return TRAY_MISSING;
        }
        return within(place, trays[tray].many) ? FINE : NOT_IN_TRAY;
    }

    private int toldByChart(int what) {
        chart.draw(town);
        switch (what) {
            case 6:
                return chart.liesSet(town);
            case 8:
                return chart.missSet(town);
            case 10:
                return Integer.bitCount(town.legsThere()) - town.places + chart.parts;
            case 11:
                return chart.closes(town, town.legsThere()) ? 1 : 0;
            default:
                return chart.bridges(town);
        }
    }

    private int cornersFault(Tray corners, int n) {
        chart.draw(town);
        int why = FINE;
        for (int i = 0; i < n; i++) {
            long corner = corners.numbers[i];
            if (corner < 0 || corner >= town.places) {
                return WRONG_IN_TRAY;
            }
            if (!chart.lies((int) corner)) {
                why = NONE_SUCH;
            }
        }
        return why;
    }

    /** Only behind cornersFault(), which has drawn the chart and looked at every corner. */
    private long twiceArea(Tray corners, int n) {
        long sum = 0;
        for (int i = 0; i < n; i++) {
            int here = (int) corners.numbers[i];
            int next = (int) corners.numbers[i + 1 < n ? i + 1 : 0];
            sum += (long) chart.x[here] * chart.y[next] - (long) chart.y[here] * chart.x[next];
        }
        return sum;
    }

    private static long choose(int n, int many) {
        long ways = 1;
        for (int i = 1; i <= many; i++) {
            ways = ways * (n - many + i) / i;
        }
        return ways;
    }

    private static long power(int base, int times) {
        long product = 1;
        for (int i = 0; i < times; i++) {
            product *= base;
        }
        return product;
    }

    /** A row of numbers that are cut to the row's sort. */
    private static final class Tray {
        static final int SORTS = 4;

        final long[] numbers = new long[TRAY_ROOM];
        boolean there = false;
        int sort = 0;
        int many = 0;

        void begin(int newSort, int newMany) {
            Arrays.fill(numbers, 0L);
            there = true;
            sort = newSort;
            many = newMany;
        }

        boolean holds(int place, int number) {
            return (long) place + number <= many;
        }

        void put(int place, long v) {
            if (within(place, many)) {
                numbers[place] = cut(v);
            }
        }

        private long cut(long v) {
            switch (sort) {
                case 0:
                    return (byte) v;
                case 1:
                    return (short) v;
                case 2:
                    return (int) v;
                default:
                    return v;
            }
        }
    }

    /** The tape; the tokens of a text from it, one at a time, and the first fault along it. */
    private static final class Text {
        static final int NO_FAULT = 0;
        static final int NO_TOKEN_FAULT = 1;
        static final int STAND_FAULT = 2;
        static final int NAME_FAULT = 3;
        static final int NUMBER_FAULT = 4;
        static final int AGAIN_FAULT = 5;
        static final int MANY_FAULT = 6;
        static final int DEPTH_FAULT = 7;

        static final int THE_END = 0;
        static final int WORD = 1;
        static final int NAME = 2;
        static final int LONG_WORD = 3;
        static final int NUMBER = 4;
        static final int SIGN = 5;
        static final int NO_TOKEN = 6;

        static final int NAME_LETTERS = 8;
        static final int DIGITS = 4;
        static final int TOKENS = TAPE_ROOM + 1;

        static final int NO_WORD = -1;
        static final int ODDS = 0;
        static final int PLACE = 1;
        static final int WALKER = 2;
        static final int TURNED = 3;
        static final int LEFT = 4;
        static final int STRIDE = 5;
        static final int LEG = 6;
        static final int EAST = 7;
        static final int WEST = 8;
        static final int NORTH = 9;
        static final int SOUTH = 10;
        static final int GO = 11;
        static final int STRIKE = 12;
        static final int RESTORE = 13;
        static final int BELIEVE = 14;
        static final int ANY = 15;
        static final int WHEN = 16;
        static final int AT = 17;
        static final int CLOSED = 18;
        static final int MISSES = 19;
        static final int PACES = 20;
        static final int LOOP = 21;
        static final int END = 22;
        static final int STOP = 23;
        static final int WORDS = 24;

        /** In the order of the numbers above, each word with a blank behind it. */
        static final String ALL_WORDS = "odds place walker turned left stride leg east west north south go strike restore believe any when at closed misses paces loop end stop ";

        final byte[] bytes = new byte[TAPE_ROOM];
        final long[] codes = new long[WORDS];
        final int[] kinds = new int[TOKENS];
        final int[] starts = new int[TOKENS];
        /** The number of a word, the code of a name, a number itself, a sign. */
        final long[] values = new long[TOKENS];
        int fed = 0;
        int length = 0;
        int tokens = 0;
        int at = 0;
        int kind = THE_END;
        int value = 0;
        int word = NO_WORD;
        int taken = 0;
        long name = 0;
        int faultKind = NONE;
        int faultPlace = NONE;

        Text() {
            int next = 0;
            long sum = 0;
            for (int i = 0; i < ALL_WORDS.length(); i++) {
                char c = ALL_WORDS.charAt(i);
                if (c != ' ') {
                    sum = withLetter(sum, c);
                } else if (next < WORDS) {
                    codes[next] = sum;
                    next++;
                    sum = 0;
                }
            }
        }

        void feedFour(int four) {
            for (int shift = 24; shift >= 0; shift -= 8) {
                if (fed < TAPE_ROOM) {
                    bytes[fed] = (byte) (four >> shift);
                    fed++;
                }
            }
        }

        /** The tape is used up by a text with a fault, too. */
        void begin(int n) {
            length = Math.min(n, fed);
            fed = 0;
            faultKind = NO_FAULT;
            faultPlace = NONE;
            tokens = 0;
            int place = 0;
            // Each turn goes on by one byte at least.
            for (int turn = 0; turn < TAPE_ROOM && place < length; turn++) {
                place = isBlank(bytes[place]) ? place + 1 : scan(place);
            }
            addToken(THE_END, length, 0);
            at = 0;
            look();
        }

        /** Letters as digits of base 32: eight of them fit a long, and no two words are alike. */
        private static long withLetter(long sum, int letter) {
            return sum * 32 + (letter - 'a' + 1);
        }

        private static boolean isLetter(int sign) {
            return sign >= 'a' && sign <= 'z';
        }

        private static boolean isDigit(int sign) {
            return sign >= '0' && sign <= '9';
        }

        private static boolean isBlank(int sign) {
            return sign == 10 || sign == 32;
        }

        private static boolean isSign(int sign) {
            return sign == ';' || sign == '<' || sign == '>' || sign == '=';
        }

        private void addToken(int newKind, int start, long newValue) {
            if (tokens < TOKENS) {
                kinds[tokens] = newKind;
                starts[tokens] = start;
                values[tokens] = newValue;
                tokens++;
            }
        }

        private int scan(int start) {
            int first = bytes[start];
            if (isLetter(first)) {
                return scanWord(start);
            }
            if (isDigit(first)) {
                return scanNumber(start);
            }
            addToken(isSign(first) ? SIGN : NO_TOKEN, start, first);
            return start + 1;
        }

        private int scanWord(int start) {
            long code = 0;
            int end = start;
            for (; end < length && isLetter(bytes[end]); end++) {
                // A ninth letter would push the first one out; such a word has no code.
                if (end - start < NAME_LETTERS) {
                    code = withLetter(code, bytes[end]);
                }
            }
            int number = wordOf(code);
            if (end - start > NAME_LETTERS) {
                addToken(LONG_WORD, start, 0);
            } else if (number != NO_WORD) {
                addToken(WORD, start, number);
            } else {
                addToken(NAME, start, code);
            }
            return end;
        }

        private int wordOf(long code) {
            for (int i = 0; i < WORDS; i++) {
                if (codes[i] == code) {
                    return i;
                }
            }
            return NO_WORD;
        }

        private int scanNumber(int start) {
            int number = 0;
            int end = start;
            for (; end < length && isDigit(bytes[end]); end++) {
                if (end - start < DIGITS) {
                    number = number * 10 + (bytes[end] - '0');
                }
            }
            addToken(end - start <= DIGITS ? NUMBER : NO_TOKEN, start, number);
            return end;
        }

        private void look() {
            kind = kinds[at];
            value = kind == NUMBER || kind == SIGN ? (int) values[at] : 0;
            word = kind == WORD ? (int) values[at] : NO_WORD;
        }

        void next() {
            if (at + 1 < tokens) {
                at++;
                look();
            }
        }

        boolean atEnd() {
            return kind == THE_END;
        }

        boolean faultHere(int which) {
            faultKind = which;
            faultPlace = starts[at];
            return false;
        }

        boolean cannotStand() {
            return faultHere(kind == NO_TOKEN ? NO_TOKEN_FAULT : STAND_FAULT);
        }

        boolean takeSign(int sign) {
            if (kind != SIGN || value != sign) {
                return cannotStand();
            }
            next();
            return true;
        }

        boolean takeNumber(int least, int most) {
            if (kind != NUMBER) {
                return cannotStand();
            }
            if (value < least || value > most) {
                return faultHere(NUMBER_FAULT);
            }
            taken = value;
            next();
            return true;
        }

        /** Looks at a name without going past it, so that a fault in it is still told at its place. */
        boolean nameHere() {
            if (kind != NAME) {
                return cannotStand();
            }
            name = values[at];
            return true;
        }
    }

    /** The places, the walkers and the legs, with all that became of them. */
    private static final class Town {
        static final long NAMELESS = 0;
        static final int FIRST_ODDS = 2;

        final long[] placeNames = new long[PLACES];
        final long[] walkerNames = new long[WALKERS];
        final int[] faults = new int[WALKERS];
        final int[] tellers = new int[LEGS];
        final int[] from = new int[LEGS];
        final int[] to = new int[LEGS];
        final int[] east = new int[LEGS];
        final int[] north = new int[LEGS];
        int places = 0;
        int walkers = 0;
        int legs = 0;
        int odds = FIRST_ODDS;
        int struck = 0;
        int stand = NONE;
        int gone = 0;

        void clear() {
            places = 0;
            walkers = 0;
            legs = 0;
            odds = FIRST_ODDS;
            struck = 0;
            stand = NONE;
            gone = 0;
        }

        void copyFrom(Town other) {
            System.arraycopy(other.placeNames, 0, placeNames, 0, PLACES);
            System.arraycopy(other.walkerNames, 0, walkerNames, 0, WALKERS);
            System.arraycopy(other.faults, 0, faults, 0, WALKERS);
            System.arraycopy(other.tellers, 0, tellers, 0, LEGS);
            System.arraycopy(other.from, 0, from, 0, LEGS);
            System.arraycopy(other.to, 0, to, 0, LEGS);
            System.arraycopy(other.east, 0, east, 0, LEGS);
            System.arraycopy(other.north, 0, north, 0, LEGS);
            places = other.places;
            walkers = other.walkers;
            legs = other.legs;
            odds = other.odds;
            struck = other.struck;
            stand = other.stand;
            gone = other.gone;
        }

        int addPlace(long name) {
            if (places >= PLACES) {
                return NONE;
            }
            placeNames[places] = name;
            if (places == 0) {
                stand = 0;
            }
            places++;
            return places - 1;
        }

        int addWalker(long name, int fault) {
            if (walkers >= WALKERS) {
                return NONE;
            }
            walkerNames[walkers] = name;
            faults[walkers] = fault;
            walkers++;
            return walkers - 1;
        }

        int addLeg(int teller, int start, int end) {
            if (legs >= LEGS) {
                return NONE;
            }
            tellers[legs] = teller;
            from[legs] = start;
            to[legs] = end;
            east[legs] = 0;
            north[legs] = 0;
            legs++;
            return legs - 1;
        }

        int placeNamed(long name) {
            for (int i = 0; i < places; i++) {
                if (placeNames[i] == name) {
                    return i;
                }
            }
            return NONE;
        }

        int walkerNamed(long name) {
            for (int i = 0; i < walkers; i++) {
                if (walkerNames[i] == name) {
                    return i;
                }
            }
            return NONE;
        }

        int legsThere() {
            return ((1 << legs) - 1) & ~struck;
        }

        int legsToldBy(int walker) {
            int set = 0;
            for (int leg = 0; leg < legs; leg++) {
                if (tellers[leg] == walker) {
                    set |= 1 << leg;
                }
            }
            return set;
        }

        static int faultOf(int turned, boolean left, int stride) {
            return turned + (left ? 4 : 0) + 8 * (stride - 1);
        }

        static int turnedBy(int fault) {
            return fault % 4;
        }

        static boolean isLeft(int fault) {
            return fault / 4 % 2 == 1;
        }

        static int strideBy(int fault) {
            return 1 + fault / 8;
        }

        int rightEast(int leg, int fault) {
            int e = isLeft(fault) ? -east[leg] : east[leg];
            int stride = strideBy(fault);
            switch (turnedBy(fault)) {
                case 0:
                    return stride * e;
                case 1:
                    return stride * north[leg];
                case 2:
                    return stride * -e;
                default:
                    return stride * -north[leg];
            }
        }

        int rightNorth(int leg, int fault) {
            int e = isLeft(fault) ? -east[leg] : east[leg];
            int stride = strideBy(fault);
            switch (turnedBy(fault)) {
                case 0:
                    return stride * north[leg];
                case 1:
                    return stride * -e;
                case 2:
                    return stride * -north[leg];
                default:
                    return stride * e;
            }
        }

        int yardsEast(int leg) {
            return rightEast(leg, faults[tellers[leg]]);
        }

        int yardsNorth(int leg) {
            return rightNorth(leg, faults[tellers[leg]]);
        }

        /** Neither a turn nor the other hand changes how many these are. */
        int yardsAlong(int leg) {
            return strideBy(faults[tellers[leg]]) * (Math.abs(east[leg]) + Math.abs(north[leg]));
        }

        int yardsOf(int set) {
            int sum = 0;
            for (int leg = 0; leg < legs; leg++) {
                if (has(set, leg)) {
                    sum += yardsAlong(leg);
                }
            }
            return sum;
        }

        boolean strikeLeg(int leg) {
            if (!within(leg, legs) || has(struck, leg)) {
                return false;
            }
            struck |= 1 << leg;
            return true;
        }

        boolean restoreLeg(int leg) {
            if (!within(leg, legs) || !has(struck, leg)) {
                return false;
            }
            struck &= ~(1 << leg);
            return true;
        }

        boolean walkAlong(int leg) {
            if (!within(leg, legs) || has(struck, leg)) {
                return false;
            }
            if (stand != from[leg] && stand != to[leg]) {
                return false;
            }
            stand = stand == from[leg] ? to[leg] : from[leg];
            gone += yardsAlong(leg);
            return true;
        }
    }

    /** Reads a town's text into a town. */
    private static final class TownText {
        final Text text;
        final Town town;
        boolean oddsTold = false;

        TownText(Text text, Town town) {
            this.text = text;
            this.town = town;
        }

        boolean parse() {
            town.clear();
            // A part takes more than one byte, so there are fewer parts than bytes.
            for (int part = 0; part <= TAPE_ROOM; part++) {
                if (text.atEnd()) {
                    return true;
                }
                if (!takePart() || !text.takeSign(';')) {
                    return false;
                }
            }
            return text.cannotStand();
        }

        private boolean takePart() {
            switch (text.word) {
                case Text.ODDS:
                    return takeOdds();
                case Text.PLACE:
                    return takePlace();
                case Text.WALKER:
                    return takeWalker();
                case Text.LEG:
                    return takeLeg();
                default:
                    return text.cannotStand();
            }
        }

        private boolean takeOdds() {
            if (oddsTold) {
                return text.faultHere(Text.AGAIN_FAULT);
            }
            oddsTold = true;
            text.next();
            if (!text.takeNumber(0, MOST_ODDS)) {
                return false;
            }
            town.odds = text.taken;
            return true;
        }

        private boolean takePlace() {
            if (town.places >= PLACES) {
                return text.faultHere(Text.MANY_FAULT);
            }
            text.next();
            if (!takeNewName()) {
                return false;
            }
            town.addPlace(text.name);
            return true;
        }

        private boolean takeWalker() {
            if (town.walkers >= WALKERS) {
                return text.faultHere(Text.MANY_FAULT);
            }
            text.next();
            if (!takeNewName()) {
                return false;
            }
            long name = text.name;
            int turned = takeNumberBehind(Text.TURNED, 0, 3, 0);
            if (turned == NONE) {
                return false;
            }
            boolean left = text.word == Text.LEFT;
            if (left) {
                text.next();
            }
            int stride = takeNumberBehind(Text.STRIDE, 1, 3, 1);
            if (stride == NONE) {
                return false;
            }
            town.addWalker(name, Town.faultOf(turned, left, stride));
            return true;
        }

        /** The number behind a word that may stand here, or what holds without; NONE with a fault. */
        private int takeNumberBehind(int word, int least, int most, int without) {
            if (text.word != word) {
                return without;
            }
            text.next();
            return text.takeNumber(least, most) ? text.taken : NONE;
        }

        private boolean takeLeg() {
            if (town.legs >= LEGS) {
                return text.faultHere(Text.MANY_FAULT);
            }
            text.next();
            int teller = takeKnownWalker();
            if (teller == NONE) {
                return false;
            }
            int from = takeKnownPlace(NONE);
            if (from == NONE) {
                return false;
            }
            int to = takeKnownPlace(from);
            if (to == NONE) {
                return false;
            }
            int leg = town.addLeg(teller, from, to);
            return takePaces(town.east, leg, Text.EAST, Text.WEST)
                && takePaces(town.north, leg, Text.NORTH, Text.SOUTH);
        }

        private boolean takePaces(int[] goal, int leg, int above, int below) {
            if (text.word != above && text.word != below) {
                return text.cannotStand();
            }
            boolean isBelow = text.word == below;
            text.next();
            if (!text.takeNumber(0, MOST_PACES)) {
                return false;
            }
            if (within(leg, goal.length)) {
                goal[leg] = isBelow ? -text.taken : text.taken;
            }
            return true;
        }

        private boolean takeNewName() {
            if (!text.nameHere()) {
                return false;
            }
            if (town.placeNamed(text.name) != NONE || town.walkerNamed(text.name) != NONE) {
                return text.faultHere(Text.NAME_FAULT);
            }
            text.next();
            return true;
        }

        private int takeKnownWalker() {
            if (!text.nameHere()) {
                return NONE;
            }
            int walker = town.walkerNamed(text.name);
            if (walker == NONE) {
                text.faultHere(Text.NAME_FAULT);
                return NONE;
            }
            text.next();
            return walker;
        }

        private int takeKnownPlace(int notThis) {
            if (!text.nameHere()) {
                return NONE;
            }
            int place = town.placeNamed(text.name);
            if (place == NONE || place == notThis) {
                text.faultHere(place == NONE ? Text.NAME_FAULT : Text.AGAIN_FAULT);
                return NONE;
            }
            text.next();
            return place;
        }
    }

    /** The steps of the days, ends among them, one behind the other. */
    private static final class Days {
        static final int MOST_STEPS = 30;
        static final int DEEPEST = 3;
        static final int ROWS = 2 * MOST_STEPS;

        static final int GO = 0;
        static final int STRIKE = 1;
        static final int RESTORE = 2;
        static final int BELIEVE = 3;
        static final int ANY = 4;
        static final int STOP = 5;
        static final int LOOP = 6;
        static final int END = 7;
        static final int WHEN_AT = 8;
        static final int WHEN_CLOSED = 9;
        static final int WHEN_MISSES = 10;
        static final int WHEN_BELOW = 11;
        static final int WHEN_ABOVE = 12;
        static final int WHEN_SAME = 13;

        final int[] kinds = new int[ROWS];
        /** The leg, the walker, the place, the yards or the rounds. */
        final int[] firsts = new int[ROWS];
        /** The fault; of a when or a loop the row of its end; of an end the row of its beginning. */
        final int[] seconds = new int[ROWS];
        boolean there = false;
        int rows = 0;
        int steps = 0;

        void clear() {
            there = false;
            rows = 0;
            steps = 0;
        }

        void copyFrom(Days other) {
            System.arraycopy(other.kinds, 0, kinds, 0, ROWS);
            System.arraycopy(other.firsts, 0, firsts, 0, ROWS);
            System.arraycopy(other.seconds, 0, seconds, 0, ROWS);
            there = other.there;
            rows = other.rows;
            steps = other.steps;
        }

        void addRow(int kind, int first, int second) {
            if (rows < ROWS) {
                kinds[rows] = kind;
                firsts[rows] = first;
                seconds[rows] = second;
                rows++;
            }
        }
    }

    /** Reads a text of days, whose names are those of a town. */
    private static final class DaysText {
        static final int MOST_ROUNDS = 99;
        static final int MOST_YARDS = 9999;

        final Text text;
        final Town town;
        final Days days;
        final int[] open = new int[Days.DEEPEST];
        int depth = 0;

        DaysText(Text text, Town town, Days days) {
            this.text = text;
            this.town = town;
            this.days = days;
        }

        boolean parse() {
            days.clear();
            days.there = true;
            // A step takes more than one byte, so there are fewer of them than bytes.
            for (int turn = 0; turn <= DAYS_ROOM; turn++) {
                if (text.atEnd()) {
                    return depth == 0 || text.cannotStand();
                }
                boolean fine = text.word == Text.END ? takeEnd() : takeStep();
                if (!fine || !text.takeSign(';')) {
                    return false;
                }
            }
            return text.cannotStand();
        }

        private boolean takeEnd() {
            if (depth <= 0) {
                return text.cannotStand();
            }
            depth--;
            days.seconds[open[depth]] = days.rows;
            days.addRow(Days.END, 0, open[depth]);
            text.next();
            return true;
        }

        private boolean takeStep() {
            int word = text.word;
            if (!isStep(word)) {
                return text.cannotStand();
            }
            if (days.steps >= Days.MOST_STEPS) {
                return text.faultHere(Text.MANY_FAULT);
            }
            if ((word == Text.WHEN || word == Text.LOOP) && depth >= Days.DEEPEST) {
                return text.faultHere(Text.DEPTH_FAULT);
            }
            days.steps++;
            text.next();
            switch (word) {
                case Text.GO:
                    return takeNumberRow(Days.GO, 0, LEGS - 1);
                case Text.STRIKE:
                    return takeNumberRow(Days.STRIKE, 0, LEGS - 1);
                case Text.RESTORE:
                    return takeNumberRow(Days.RESTORE, 0, LEGS - 1);
                case Text.BELIEVE:
                    return takeBelieve();
                case Text.ANY:
                    days.addRow(Days.ANY, 0, 0);
                    return true;
                case Text.WHEN:
                    openRow();
                    return takeTest();
                case Text.LOOP:
                    openRow();
                    return takeNumberRow(Days.LOOP, 1, MOST_ROUNDS);
                default:
                    days.addRow(Days.STOP, 0, 0);
                    return true;
            }
        }

        private static boolean isStep(int word) {
            switch (word) {
                case Text.GO:
                case Text.STRIKE:
                case Text.RESTORE:
                case Text.BELIEVE:
                case Text.ANY:
                case Text.WHEN:
                case Text.LOOP:
                case Text.STOP:
                    return true;
                default:
                    return false;
            }
        }

        /** The row that comes next is closed by an end. */
        private void openRow() {
            if (within(depth, Days.DEEPEST)) {
                open[depth] = days.rows;
                depth++;
            }
        }

        private boolean takeNumberRow(int kind, int least, int most) {
            if (!text.takeNumber(least, most)) {
                return false;
            }
            days.addRow(kind, text.taken, 0);
            return true;
        }

        private boolean takeBelieve() {
            if (!text.nameHere()) {
                return false;
            }
            int walker = town.walkerNamed(text.name);
            if (walker == NONE) {
                return text.faultHere(Text.NAME_FAULT);
            }
            text.next();
            if (!text.takeNumber(0, FAULTS - 1)) {
                return false;
            }
            days.addRow(Days.BELIEVE, walker, text.taken);
            return true;
        }

        private boolean takeTest() {
            int word = text.word;
            if (word != Text.AT && word != Text.CLOSED && word != Text.MISSES && word != Text.PACES) {
                return text.cannotStand();
            }
            text.next();
            switch (word) {
                case Text.AT:
                    return takeAt();
                case Text.CLOSED:
                    days.addRow(Days.WHEN_CLOSED, 0, 0);
                    return true;
                case Text.MISSES:
                    return takeNumberRow(Days.WHEN_MISSES, 0, LEGS - 1);
                default:
                    break;
            }
            int kind = comparisonHere();
            if (kind == NONE) {
                return text.cannotStand();
            }
            text.next();
            return takeNumberRow(kind, 0, MOST_YARDS);
        }

        private int comparisonHere() {
            if (text.kind != Text.SIGN) {
                return NONE;
            }
            switch (text.value) {
                case '<':
                    return Days.WHEN_BELOW;
                case '>':
                    return Days.WHEN_ABOVE;
                case '=':
                    return Days.WHEN_SAME;
                default:
                    return NONE;
            }
        }

        private boolean takeAt() {
            if (!text.nameHere()) {
                return false;
            }
            int place = town.placeNamed(text.name);
            if (place == NONE) {
                return text.faultHere(Text.NAME_FAULT);
            }
            text.next();
            days.addRow(Days.WHEN_AT, place, 0);
            return true;
        }
    }

    /**
     * Where the places lie. Which leg lays which place hangs on the legs that are there alone,
     * so trace() finds that once, and lay() may follow with other yards again and again.
     */
    private static final class Chart {
        final int[] east = new int[LEGS];
        final int[] north = new int[LEGS];
        final int[] x = new int[PLACES];
        final int[] y = new int[PLACES];
        /** The least place of those a place is joined with. */
        final int[] partOf = new int[PLACES];
        final int[] laying = new int[PLACES];
        final boolean[] backward = new boolean[PLACES];
        int layings = 0;
        int parts = 0;

        void draw(Town town) {
            measure(town);
            trace(town, town.legsThere());
            lay(town);
        }

        void measure(Town town) {
            for (int leg = 0; leg < town.legs; leg++) {
                int fault = town.faults[town.tellers[leg]];
                east[leg] = town.rightEast(leg, fault);
                north[leg] = town.rightNorth(leg, fault);
            }
        }

        void measureBy(Town town, int walker, int fault) {
            for (int leg = 0; leg < town.legs; leg++) {
                if (town.tellers[leg] == walker) {
                    east[leg] = town.rightEast(leg, fault);
                    north[leg] = town.rightNorth(leg, fault);
                }
            }
        }

        /** Each round lays one place more, from PLACE 0 on; where no leg does, a part begins. */
        void trace(Town town, int there) {
            Arrays.fill(partOf, NONE);
            layings = 0;
            parts = 0;
            int part = NONE;
            for (int round = 0; round < town.places; round++) {
                int leg = firstLaying(town, there);
                if (leg == NONE) {
                    part = firstUnlaid(town);
                    partOf[part] = part;
                    parts++;
                } else {
                    boolean back = partOf[town.from[leg]] == NONE;
                    partOf[back ? town.from[leg] : town.to[leg]] = part;
                    laying[layings] = leg;
                    backward[layings] = back;
                    layings++;
                }
            }
        }

        private int firstUnlaid(Town town) {
            for (int place = 0; place < town.places; place++) {
                if (partOf[place] == NONE) {
                    return place;
                }
            }
            return 0;
        }

        private int firstLaying(Town town, int there) {
            for (int leg = 0; leg < town.legs; leg++) {
                boolean fromLaid = partOf[town.from[leg]] != NONE;
                boolean toLaid = partOf[town.to[leg]] != NONE;
                if (has(there, leg) && fromLaid != toLaid) {
                    return leg;
                }
            }
            return NONE;
        }

        void lay(Town town) {
            Arrays.fill(x, 0);
            Arrays.fill(y, 0);
            for (int i = 0; i < layings; i++) {
                int leg = laying[i];
                int from = town.from[leg];
                int to = town.to[leg];
                if (backward[i]) {
                    x[from] = x[to] - east[leg];
                    y[from] = y[to] - north[leg];
                } else {
                    x[to] = x[from] + east[leg];
                    y[to] = y[from] + north[leg];
                }
            }
        }

        boolean lies(int place) {
            return within(place, PLACES) && partOf[place] == 0;
        }

        boolean sameParts(int place, int other) {
            return partOf[place] == partOf[other];
        }

        int liesSet(Town town) {
            int set = 0;
            for (int place = 0; place < town.places; place++) {
                if (lies(place)) {
                    set |= 1 << place;
                }
            }
            return set;
        }

        boolean canMiss(Town town, int leg) {
            return has(town.legsThere(), leg) && lies(town.from[leg]) && lies(town.to[leg]);
        }

        int missOf(Town town, int leg) {
            int from = town.from[leg];
            int to = town.to[leg];
            return Math.abs(x[to] - x[from] - east[leg]) + Math.abs(y[to] - y[from] - north[leg]);
        }

        int missSet(Town town) {
            int set = 0;
            for (int leg = 0; leg < town.legs; leg++) {
                if (canMiss(town, leg) && missOf(town, leg) > 0) {
                    set |= 1 << leg;
                }
            }
            return set;
        }

        /** All rings close if every leg agrees with the legs that laid its ends, part by part. */
        boolean closes(Town town, int there) {
            for (int leg = 0; leg < town.legs; leg++) {
                if (has(there, leg) && missOf(town, leg) > 0) {
                    return false;
                }
            }
            return true;
        }

        int bridges(Town town) {
            int there = town.legsThere();
            int set = 0;
            for (int leg = 0; leg < town.legs; leg++) {
                if (has(there, leg)) {
                    trace(town, there & ~(1 << leg));
                    if (!sameParts(town.from[leg], town.to[leg])) {
                        set |= 1 << leg;
                    }
                }
            }
            return set;
        }
    }

    /** The fewest legs that can't be right, and the faults by which all closes. */
    private static final class Doubts {
        static final int MOST_OUT = 3;
        static final int MOST_WAYS = FAULTS * FAULTS;
        /** Above twice the yards north that the six legs of a row can have together. */
        static final int SPAN = 4096;
        static final int SLOTS = 1024;
        static final int SLOT_SHIFT = 22;
        static final int SCATTER = -1640531527;

        final Chart chart = new Chart();
        final int[] spots = new int[MOST_WAYS * PLACES];
        final int[] keys = new int[SLOTS];
        final int[] counts = new int[SLOTS];
        final int[] oneWith = new int[FAULTS];
        final int[] otherWith = new int[FAULTS];
        int outSet = NONE;
        int one = NONE;
        int other = NONE;
        int ways = 0;
        int oneFirst = NONE;
        int otherFirst = NONE;
        int askFirst = NONE;
        int askSecond = NONE;

        void findOut(Town town) {
            chart.measure(town);
            int there = town.legsThere();
            int fewest = MOST_OUT + 1;
            outSet = NONE;
            for (int set = 0; set < (1 << town.legs); set++) {
                int many = Integer.bitCount(set);
                if ((set & ~there) == 0 && many < fewest && closesWithout(town, there & ~set)) {
                    fewest = many;
                    outSet = set;
                }
            }
        }

        private boolean closesWithout(Town town, int there) {
            chart.trace(town, there);
            chart.lay(town);
            return chart.closes(town, there);
        }

        void findFits(Town town, int set) {
            Arrays.fill(oneWith, 0);
            Arrays.fill(otherWith, 0);
            ways = 0;
            pickWalkers(town, set);
            chart.draw(town);
            int oneMany = one == NONE ? 1 : FAULTS;
            int otherMany = other == NONE ? 1 : FAULTS;
            for (int f = 0; f < oneMany; f++) {
                chart.measureBy(town, one, f);
                for (int g = 0; g < otherMany; g++) {
                    chart.measureBy(town, other, g);
                    chart.lay(town);
                    if (chart.closes(town, town.legsThere())) {
                        keepWay(f, g);
                    }
                }
            }
        }

        private void pickWalkers(Town town, int set) {
            one = NONE;
            other = NONE;
            for (int walker = 0; walker < town.walkers; walker++) {
                if (has(set, walker)) {
                    if (one == NONE) {
                        one = walker;
                    } else {
                        other = walker;
                    }
                }
            }
        }

        private void keepWay(int f, int g) {
            if (ways >= MOST_WAYS) {
                return;
            }
            if (ways == 0) {
                oneFirst = f;
                otherFirst = g;
            }
            oneWith[f]++;
            otherWith[g]++;
            for (int place = 0; place < PLACES; place++) {
                spots[ways * PLACES + place] = chart.x[place] * SPAN + chart.y[place];
            }
            ways++;
        }

        int firstOf(int walker) {
            return walker == one ? oneFirst : otherFirst;
        }

        int waysWith(int walker, int fault) {
            return walker == one ? oneWith[fault] : otherWith[fault];
        }

        /** Behind findFits(), whose chart still tells which places are joined. */
        boolean findBestPair(Town town) {
            int fewest = MOST_WAYS + 1;
            for (int a = 0; a < town.places; a++) {
                for (int b = a + 1; b < town.places; b++) {
                    int most = chart.sameParts(a, b) ? mostAlike(a, b) : fewest;
                    if (most < fewest) {
                        fewest = most;
                        askFirst = a;
                        askSecond = b;
                    }
                }
            }
            return fewest <= MOST_WAYS;
        }

        private int mostAlike(int a, int b) {
            Arrays.fill(counts, 0);
            int most = 0;
            for (int way = 0; way < ways; way++) {
                int slot = slotOf(spots[way * PLACES + b] - spots[way * PLACES + a]);
                counts[slot]++;
                most = Math.max(most, counts[slot]);
            }
            return most;
        }

        /** There are more slots than ways, so one is found at the latest when all were looked at. */
        private int slotOf(int key) {
            int slot = (key * SCATTER) >>> SLOT_SHIFT;
            for (int look = 0; look < SLOTS; look++) {
                if (counts[slot] == 0) {
                    keys[slot] = key;
                    return slot;
                }
                if (keys[slot] == key) {
                    return slot;
                }
                slot = (slot + 1) & (SLOTS - 1);
            }
            return 0;
        }
    }

    /** The shortest row of places from one to another. */
    private static final class Paths {
        final int[] lengths = new int[PLACES * PLACES];
        final int[] row = new int[PLACES];
        final int[] best = new int[PLACES];
        int places = 0;
        int goal = 0;
        int yards = NONE;
        int many = 0;

        void find(Town town, int start, int end) {
            measureAll(town);
            places = town.places;
            goal = end;
            yards = NONE;
            many = 0;
            row[0] = start;
            walkOn(0, 0, 1 << start);
        }

        private void measureAll(Town town) {
            Arrays.fill(lengths, NONE);
            for (int leg = 0; leg < town.legs; leg++) {
                if (has(town.legsThere(), leg)) {
                    int along = town.yardsAlong(leg);
                    shorten(town.from[leg] * PLACES + town.to[leg], along);
                    shorten(town.to[leg] * PLACES + town.from[leg], along);
                }
            }
        }

        private void shorten(int pair, int along) {
            if (lengths[pair] == NONE || along < lengths[pair]) {
                lengths[pair] = along;
            }
        }

        /** Rows come in their order, so that a later one must be shorter to be better. */
        private void walkOn(int depth, int walked, int seen) {
            if (yards != NONE && walked >= yards) {
                return;
            }
            if (row[depth] == goal) {
                yards = walked;
                many = depth + 1;
                System.arraycopy(row, 0, best, 0, many);
                return;
            }
            if (depth + 1 < PLACES) {
                tryEachNext(depth, walked, seen);
            }
        }

        private void tryEachNext(int depth, int walked, int seen) {
            for (int next = 0; next < places; next++) {
                int along = lengths[row[depth] * PLACES + next];
                if (along != NONE && !has(seen, next)) {
                    row[depth + 1] = next;
                    walkOn(depth + 1, walked + along, seen | (1 << next));
                }
            }
        }
    }

    /** Two who strike and restore by turns. */
    private static final class Game {
        static final int BITS = 4;
        static final int MASK = 15;

        /** Of each set of legs, BITS for each turn: 1 more than what it comes to, or 0 if unknown. */
        final int[] table = new int[1 << LEGS];
        final int[] ends = new int[LEGS];
        int legs = 0;
        int start = 0;
        int turns = 0;
        boolean anyPlace = false;

        void begin(Town town, int n) {
            Arrays.fill(table, 0);
            legs = town.legs;
            start = town.legsThere();
            turns = n;
            anyPlace = town.places > 0;
            for (int leg = 0; leg < legs; leg++) {
                ends[leg] = (1 << town.from[leg]) | (1 << town.to[leg]);
            }
        }

        int endOfBestPlay() {
            return worth(start, 0);
        }

        int firstBestLeg() {
            int best = worth(start, 0);
            for (int leg = 0; leg < legs; leg++) {
                if (has(start, leg) && worth(start & ~(1 << leg), 1) == best) {
                    return leg;
                }
            }
            return NONE;
        }

        private int worth(int there, int turn) {
            int known = (table[there] >> (BITS * turn)) & MASK;
            if (known > 0) {
                return known - 1;
            }
            int best = turn >= turns || turn >= MOST_TURNS ? reached(there) : bestMove(there, turn);
            table[there] |= (best + 1) << (BITS * turn);
            return best;
        }

        private int bestMove(int there, int turn) {
            boolean strikes = turn % 2 == 0;
            int best = worth(there, turn + 1);
            for (int leg = 0; leg < legs; leg++) {
                if (has(there, leg) == strikes) {
                    int value = worth(there ^ (1 << leg), turn + 1);
                    best = strikes ? Math.min(best, value) : Math.max(best, value);
                }
            }
            return best;
        }

        private int reached(int there) {
            int set = anyPlace ? 1 : 0;
            for (int round = 0; round < PLACES; round++) {
                int ahead = set;
                for (int leg = 0; leg < legs; leg++) {
                    if (has(there, leg) && (set & ends[leg]) != 0) {
                        set |= ends[leg];
                    }
                }
                if (set == ahead) {
                    break;
                }
            }
            return Integer.bitCount(set);
        }
    }

    /** Days as they are lived in a town. */
    private static final class Life {
        static final int MISSED = 0;
        static final int WENT = 1;
        static final int STRUCK = 2;
        static final int RESTORED = 3;
        static final int LEFT_OVER = 4;
        static final int TOLD = 5;

        static final int MOST_STEPS = 300;
        /** Ends are no steps: an empty loop comes to its end 99 times for one step. */
        static final int MOST_TURNS_OF_ALL = 1000000;

        final Chart chart = new Chart();
        final int[] counts = new int[TOLD];
        final int[] rounds = new int[Days.ROWS];
        int steps = 0;
        int draws = 0;

        void run(Town town, Days days, int seed) {
            Arrays.fill(counts, 0);
            steps = 0;
            draws = seed;
            int row = 0;
            for (int turn = 0; turn < MOST_TURNS_OF_ALL && row >= 0 && row < days.rows; turn++) {
                if (days.kinds[row] == Days.END) {
                    row = behindEnd(days, row);
                } else if (steps >= MOST_STEPS) {
                    counts[LEFT_OVER] = 1;
                    return;
                } else {
                    steps++;
                    row = behindStep(town, days, row);
                }
            }
        }

        private int behindEnd(Days days, int row) {
            int begin = days.seconds[row];
            if (days.kinds[begin] != Days.LOOP) {
                return row + 1;
            }
            rounds[begin]--;
            return rounds[begin] > 0 ? begin + 1 : row + 1;
        }

        /** The row that comes next; one behind all rows for a stop. */
        private int behindStep(Town town, Days days, int row) {
            int first = days.firsts[row];
            switch (days.kinds[row]) {
                case Days.GO:
                    count(WENT, town.walkAlong(first));
                    return row + 1;
                case Days.STRIKE:
                    count(STRUCK, town.strikeLeg(first));
                    return row + 1;
                case Days.RESTORE:
                    count(RESTORED, town.restoreLeg(first));
                    return row + 1;
                case Days.BELIEVE:
                    takeBelief(town, first, days.seconds[row]);
                    return row + 1;
                case Days.ANY:
                    doAny(town);
                    return row + 1;
                case Days.LOOP:
                    rounds[row] = first;
                    return row + 1;
                case Days.STOP:
                    return days.rows;
                default:
                    return holds(town, days.kinds[row], first) ? row + 1 : days.seconds[row] + 1;
            }
        }

        private void count(int what, boolean done) {
            counts[done ? what : MISSED]++;
        }

        private void takeBelief(Town town, int walker, int fault) {
            if (!within(walker, town.walkers) || town.faults[walker] == fault) {
                counts[MISSED]++;
                return;
            }
            town.faults[walker] = fault;
        }

        private void doAny(Town town) {
            if (town.legs == 0) {
                counts[MISSED]++;
                return;
            }
            int leg = draw(town.legs);
            boolean changes = draw(MOST_ODDS) < town.odds;
            if (!changes) {
                count(WENT, town.walkAlong(leg));
            } else if (has(town.struck, leg)) {
                count(RESTORED, town.restoreLeg(leg));
            } else {
                count(STRUCK, town.strikeLeg(leg));
            }
        }

        private int draw(int many) {
            draws = (draws * 3277 + 11505) % 65536;
            return many > 0 ? draws / 8 % many : 0;
        }

        private boolean holds(Town town, int kind, int number) {
            switch (kind) {
                case Days.WHEN_AT:
                    return town.stand == number;
                case Days.WHEN_CLOSED:
                    chart.draw(town);
                    return chart.closes(town, town.legsThere());
                case Days.WHEN_MISSES:
                    chart.draw(town);
                    return has(chart.missSet(town), number);
                case Days.WHEN_BELOW:
                    return town.gone < number;
                case Days.WHEN_ABOVE:
                    return town.gone > number;
                default:
                    return town.gone == number;
            }
        }
    }
}
