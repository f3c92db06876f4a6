/** What can't be right (promises 27 to 32): each sentence that names a boundary has a test of its own, told above it. */
public final class EdgesOfDoubtsTest {
    private static final String TWO = "place a;place b;walker u;";
    /** Two LEGS told alike, one by u, one by v: they close where what is RIGHT of 2 east is the same by both. */
    private static final String PAIR = "place a;place b;walker u;walker v;leg u a b east 2 north 0;leg v a b east 2 north 0;";

    public static void main(String[] args) {
        outNone();
        outOneTwoThree();
        outNotByThree();
        outOfSeveralTheLeast();
        outTheFewestAheadOfTheLeast();
        outBesides();
        outOfPlacesNowhere();
        outOfTwelve();
        fitsSets();
        fitsAtMostTwo();
        fitsOfNoWalkers();
        fitsOfOneWalker();
        fitsOfTwoWalkers();
        fitsOfWhoToldNothing();
        theOthersAreAsBelieved();
        firstFaultNumbers();
        firstFaultNoneAndNotOfTheSet();
        theFirstByWalkersThenByFaults();
        oddsThatNumbers();
        oddsThatNoWayAndNotOfTheSet();
        inHowManyOfTheseByAll();
        askNumbers();
        askFewerThanTwoWays();
        askNoTwoPlacesAreJoined();
        askTheMostAreTheFewest();
        askOfSeveralTheFirst();
        askTheFirstLessThanTheSecond();
        askFarEastAndNorth();
        askOfTheLastPlace();
        askCountsApartWhatLiesApart();
        Due.end("EdgesOfDoubtsTest");
    }

    private static PacedMap mapOf(String town) {
        PacedMap map = new PacedMap();
        Due.with("town of " + town, map, Due.town(map, town) >= 0, true, 0);
        return map;
    }

    private static void out(PacedMap map, int many, int set) {
        Due.with("27: OUT", map, map.out(), many, 0);
        Due.with("28: its set", map, map.outSet(), set, 0);
    }

    /** "till it is CLOSED": none if it is. */
    private static void outNone() {
        out(new PacedMap(), 0, 0);
        out(mapOf("place a;place b;place c;place d;place e;place f;place g;"), 0, 0);
        out(mapOf(TWO + "leg u a b east 9 north 9;"), 0, 0);
        out(mapOf(TWO + "leg u a b east 9 north 9;leg u b a west 9 south 9;"), 0, 0);
    }

    /** "the fewest LEGS (at most 3)": one, two, three. */
    private static void outOneTwoThree() {
        PacedMap map = mapOf(TWO + "leg u a b east 1 north 0;");
        for (int legs = 2; legs <= 4; legs++) {
            map.pace(0, 0, 1, legs, 0);
            out(map, legs - 1, (1 << legs - 1) - 1);
        }
    }

    /** "6: not by 3". */
    private static void outNotByThree() {
        Seen.Start five = map -> Due.town(map, TWO + "leg u a b east 1 north 0;leg u a b east 2 north 0;leg u a b east 3 north 0;"
            + "leg u a b east 4 north 0;leg u a b east 5 north 0;");
        Seen.refused("27: not by 3", five, map -> map.out(), 6);
        Seen.refused("28: not by 3", five, map -> map.outSet(), 6);
        PacedMap map = Seen.begun(five);
        map.tell(4, 4, 0);
        out(map, 3, 7);
    }

    /** "of several sets the least as a number (1 for LEG 0 ..)". */
    private static void outOfSeveralTheLeast() {
        PacedMap ring = mapOf("place a;place b;place c;walker u;leg u a b east 1 north 0;leg u b c east 1 north 0;leg u a c east 9 north 0;");
        out(ring, 1, 1);
        // Two rings that do not close, with leg 1 in both of them.
        PacedMap both = mapOf("place a;place b;place c;walker u;leg u a c east 5 north 0;leg u a b east 1 north 0;leg u b c east 1 north 0;"
            + "leg u a c east 5 north 0;");
        out(both, 1, 2);
        PacedMap apart = mapOf("place a;place b;place c;place d;walker u;leg u a b east 1 north 0;leg u c d east 1 north 0;"
            + "leg u c d east 2 north 0;leg u a b east 2 north 0;");
        out(apart, 2, 3);
    }

    /** "the fewest" ahead of "the least": one LEG of a great number ahead of two of small ones. */
    private static void outTheFewestAheadOfTheLeast() {
        PacedMap map = mapOf(TWO + "leg u a b east 1 north 0;leg u a b east 1 north 0;leg u a b east 2 north 0;");
        out(map, 1, 4);
        PacedMap last = mapOf(TWO + "leg u a b east 1 north 0;".repeat(11) + "leg u a b east 2 north 0;");
        out(last, 1, 2048);
        PacedMap three = mapOf(TWO + "leg u a b east 1 north 0;".repeat(9) + "leg u a b east 2 north 0;".repeat(3));
        out(three, 3, 512 + 1024 + 2048);
    }

    /** "that must be STRUCK besides": those that are do not count. */
    private static void outBesides() {
        PacedMap map = mapOf(TWO + "leg u a b east 1 north 0;leg u a b east 2 north 0;leg u a b east 3 north 0;"
            + "leg u a b east 4 north 0;leg u a b east 5 north 0;");
        map.strike(1);
        out(map, 3, 1 + 4 + 8);
        map.strike(0);
        out(map, 2, 4 + 8);
        map.strike(3);
        out(map, 1, 4);
        map.strike(2);
        out(map, 0, 0);
        Due.with("28: they are STRUCK by strike() alone", map, map.told(7), 15, 0);
    }

    /** "those of PLACES that do not LIE anywhere, too". */
    private static void outOfPlacesNowhere() {
        out(mapOf("place a;place b;place c;walker u;leg u b c east 1 north 0;leg u b c east 2 north 0;"), 1, 1);
    }

    /** As many LEGS as there can be, and the last three of them. */
    private static void outOfTwelve() {
        PacedMap map = Seen.begun(Seen::full);
        map.restore(3);
        out(map, 0, 0);
        map.tell(11, 9, 9);
        out(map, 1, 2048);
        map.tell(6, 8, 9);
        out(map, 2, 2048 + 64);
        map.tell(9, 7, 9);
        out(map, 3, 2048 + 64 + 512);
        map.tell(0, 6, 9);
        Due.with("27: four", map, map.out(), -1, 6);
    }

    /** "a set that can't be": of WALKERS that there are. */
    private static void fitsSets() {
        Seen.Start[] starts = {
            map -> { }, map -> Due.town(map, "walker u;"), map -> Due.town(map, "walker u;walker v;")
        };
        for (int walkers = 0; walkers < 3; walkers++) {
            String who = walkers + " WALKERS, set";
            int most = (1 << walkers) - 1;
            Seen.bounds("29: " + who, starts[walkers], (map, v) -> map.fits(v), 0, most);
        }
        Seen.bounds("29: three WALKERS, set", Seen::rich, (map, v) -> map.fits(v), 0, 6);
    }

    /** "FITS of a set of WALKERS (..; at most 2)". */
    private static void fitsAtMostTwo() {
        for (int s = 0; s < 16; s++) {
            int set = s;
            if (Integer.bitCount(set) <= 2) {
                PacedMap map = Seen.begun(Seen::full);
                Due.with("29: set " + set, map, map.fits(set) >= 0, true, 0);
            } else {
                Seen.refused("29: set " + set, Seen::full, map -> map.fits(set), 1);
                Seen.refused("30: set " + set, Seen::full, map -> map.firstFault(set, 0), 1);
                Seen.refused("31: set " + set, Seen::full, map -> map.oddsThat(set, 0, 0), 1);
                Seen.refused("32: set " + set, Seen::full, map -> map.ask(set, 0), 1);
            }
        }
    }

    /** Of none there is one way if it is CLOSED, and none if it is not. */
    private static void fitsOfNoWalkers() {
        Due.is("29: of a TOWN of nothing", new PacedMap().fits(0), 1);
        PacedMap map = mapOf(PAIR);
        Due.with("29: CLOSED", map, map.fits(0), 1, 0);
        map.tell(1, 3, 0);
        Due.with("29: not CLOSED", map, map.fits(0), 0, 0);
    }

    /** "in how many ways each of them can have one FAULT": none to 24. */
    private static void fitsOfOneWalker() {
        PacedMap map = mapOf(PAIR);
        Due.with("29: as he is, or turned twice and LEFT", map, map.fits(1), 2, 0);
        map.tell(1, 6, 0);
        Due.with("29: by STRIDE 3", map, map.fits(1), 2, 0);
        map.tell(1, 8, 0);
        Due.with("29: by none", map, map.fits(1), 0, 0);
        map.tell(1, 2, 0);
        map.strike(1);
        Due.with("29: by all", map, map.fits(1), 24, 0);
        map.tell(0, 0, 0);
        map.restore(1);
        Due.with("29: he tells none", map, map.fits(1), 0, 0);
        map.tell(1, 0, 0);
        Due.with("29: both tell none", map, map.fits(1), 24, 0);
    }

    /** Two: none to 576. */
    private static void fitsOfTwoWalkers() {
        PacedMap map = mapOf(PAIR);
        Due.with("29: 12 times 2 times 2", map, map.fits(3), 48, 0);
        map.tell(1, 0, 1);
        Due.with("29: by none but of one STRIDE twice the other", map, map.fits(3), 16, 0);
        map.tell(1, 0, 7);
        Due.with("29: by none", map, map.fits(3), 0, 0);
        map.strike(0);
        Due.with("29: by all", map, map.fits(3), 576, 0);
        map.strike(1);
        Due.with("29: by all without LEGS", map, map.fits(3), 576, 0);
    }

    /** One who told no LEG can have each FAULT. */
    private static void fitsOfWhoToldNothing() {
        PacedMap map = mapOf("place a;place b;walker u;walker v;walker w;walker x;leg u a b east 2 north 0;leg u a b east 2 north 0;");
        Due.with("29: x", map, map.fits(8), 24, 0);
        Due.with("29: w and x", map, map.fits(12), 576, 0);
        map.tell(0, 3, 0);
        Due.with("29: not by their FAULTS", map, map.fits(12), 0, 0);
        Due.with("29: nor by his own", map, map.fits(1), 0, 0);
    }

    /** "(the others are as BELIEVED)". */
    private static void theOthersAreAsBelieved() {
        PacedMap map = mapOf(PAIR);
        map.believe(1, 3);
        Due.with("29: u as v", map, map.fits(1), 2, 0);
        Due.with("30: u as v", map, map.firstFault(1, 0), 3, 0);
        Due.with("29: v as u", map, map.fits(2), 2, 0);
        Due.with("30: v as u", map, map.firstFault(2, 1), 0, 0);
        Due.with("29: neither", map, map.fits(0), 0, 0);
        Due.with("23: nothing is BELIEVED by it", map, map.walker(1, 3), 3, 0);
        Due.with("23: nor of u", map, map.walker(0, 3), 0, 0);
    }

    /** firstFault "(1 ..)": set, WALKER. */
    private static void firstFaultNumbers() {
        for (int set : new int[] {-1, 7, 8, 16, Integer.MIN_VALUE, Integer.MAX_VALUE}) {
            Seen.refused("30: set " + set, Seen::rich, map -> map.firstFault(set, 0), 1);
        }
        Seen.bounds("30: WALKER", map -> Due.town(map, PAIR), (map, v) -> map.firstFault(3, v), 0, 1);
        for (int walker : new int[] {-1, 3, 4, 32, Integer.MIN_VALUE, Integer.MAX_VALUE}) {
            Seen.refused("30: WALKER " + walker, Seen::rich, map -> map.firstFault(1, walker), 1);
        }
        Seen.refused("30: without WALKERS", map -> { }, map -> map.firstFault(0, 0), 1);
    }

    /** "6: there is none; 7: he is not of the set": 1 ahead of 6 ahead of 7. */
    private static void firstFaultNoneAndNotOfTheSet() {
        Seen.refused("30: not of the set", Seen::rich, map -> map.firstFault(1, 1), 7);
        Seen.refused("30: not of the set of two", Seen::rich, map -> map.firstFault(5, 1), 7);
        Seen.refused("30: not of the set of none", Seen::rich, map -> map.firstFault(0, 0), 7);
        Seen.Start none = map -> Due.town(map, "place a;place b;walker u;walker v;leg u a b east 2 north 0;leg u a b east 3 north 0;");
        Seen.refused("30: none", none, map -> map.firstFault(1, 0), 6);
        Seen.refused("30: none of two", none, map -> map.firstFault(3, 1), 6);
        Seen.refused("30: none ahead of not of it", none, map -> map.firstFault(1, 1), 6);
        Seen.refused("30: 1 ahead of none", none, map -> map.firstFault(1, 2), 1);
        Seen.refused("30: 1 ahead of none, set", none, map -> map.firstFault(4, 0), 1);
    }

    /** "the first by WALKERS, then by FAULTS": the least of the one, whatever the other one has; then the least of him. */
    private static void theFirstByWalkersThenByFaults() {
        PacedMap map = mapOf("place a;place b;walker u;walker v;leg u a b east 2 north 0;leg v a b east 0 north 4;");
        Due.with("30: u has 8 by v as BELIEVED", map, map.firstFault(1, 0), 8 + 3, 0);
        Due.with("29: of two", map, map.fits(3) > 2, true, 0);
        // u can be as he is only if 4 north is made 2 east: by no STRIDE; so u's first is 8, with v's first that turns.
        Due.with("30: u", map, map.firstFault(3, 0), 8, 0);
        Due.with("30: v", map, map.firstFault(3, 1), 1, 0);
        // The other way round v is the first and u told less; the set is the same.
        PacedMap turned = mapOf("place a;place b;walker v;walker u;leg u a b east 2 north 0;leg v a b east 0 north 4;");
        Due.with("30: v first", turned, turned.firstFault(3, 0), 0, 0);
        Due.with("30: u by it", turned, turned.firstFault(3, 1), 11, 0);
        Due.with("30: alone, his own", turned, turned.firstFault(2, 1), 11, 0);
    }

    /** oddsThat "(1 ..)": set, WALKER, FAULT. */
    private static void oddsThatNumbers() {
        for (int set : new int[] {-1, 7, 8, 16, Integer.MIN_VALUE, Integer.MAX_VALUE}) {
            Seen.refused("31: set " + set, Seen::rich, map -> map.oddsThat(set, 0, 0), 1);
        }
        for (int walker : new int[] {-1, 3, 4, 32, Integer.MIN_VALUE, Integer.MAX_VALUE}) {
            Seen.refused("31: WALKER " + walker, Seen::rich, map -> map.oddsThat(1, walker, 0), 1);
        }
        Seen.bounds("31: FAULT", Seen::rich, (map, v) -> map.oddsThat(6, 2, v), 0, 23);
        Seen.bounds("31: FAULT of the first", Seen::rich, (map, v) -> map.oddsThat(6, 1, v), 0, 23);
        Seen.refused("31: without WALKERS", map -> { }, map -> map.oddsThat(0, 0, 0), 1);
    }

    /** "6: there is no way; 7: he is not of the set": 1 ahead of 6 ahead of 7. */
    private static void oddsThatNoWayAndNotOfTheSet() {
        Seen.refused("31: not of the set", Seen::rich, map -> map.oddsThat(1, 1, 0), 7);
        Seen.refused("31: not of the set of none", Seen::rich, map -> map.oddsThat(0, 0, 0), 7);
        Seen.refused("31: 1 ahead of not of it", Seen::rich, map -> map.oddsThat(1, 1, 24), 1);
        Seen.Start none = map -> {
            Seen.rich(map);
            map.town(0);
            Due.town(map, "place a;place b;walker u;walker v;leg u a b east 2 north 0;leg u a b east 3 north 0;");
        };
        Seen.refused("31: no way", none, map -> map.oddsThat(1, 0, 0), 6);
        Seen.refused("31: no way ahead of not of it", none, map -> map.oddsThat(1, 1, 0), 6);
        Seen.refused("31: 1 ahead of no way", none, map -> map.oddsThat(1, 0, 24), 1);
        Seen.refused("31: 1 ahead of no way, below", none, map -> map.oddsThat(1, 0, -1), 1);
        Seen.refused("31: 1 ahead of no way, WALKER", none, map -> map.oddsThat(1, 2, 0), 1);
    }

    /** "in how many of these he does, by all": 0 by 1, all, a part; together they are 1. */
    private static void inHowManyOfTheseByAll() {
        PacedMap map = mapOf(PAIR);
        for (int fault = 0; fault < 24; fault++) {
            boolean plain = fault == 0 || fault == 6;
            Due.fraction("31: of one, " + fault, map, map.oddsThat(1, 0, fault), plain ? 1 : 0, plain ? 2 : 1);
            Due.fraction("31: of two, " + fault, map, map.oddsThat(3, 1, fault), 1, 24);
        }
        map.tell(1, 4, 0);
        Due.fraction("31: u has STRIDE 2", map, map.oddsThat(3, 0, 8), 1, 8);
        Due.fraction("31: u has STRIDE 1 not", map, map.oddsThat(3, 0, 0), 0, 1);
        Due.fraction("31: v has STRIDE 1", map, map.oddsThat(3, 1, 0), 1, 8);
        PacedMap one = mapOf("place a;place b;walker u;walker v;leg u a b east 1 north 2;leg v a b east 1 north 2;");
        Due.fraction("31: all", one, one.oddsThat(1, 0, 0), 1, 1);
        Due.fraction("31: none", one, one.oddsThat(2, 1, 23), 0, 1);
    }

    /** ask "(1 ..)": set; what 0, 1. */
    private static void askNumbers() {
        for (int set : new int[] {-1, 7, 8, 16, Integer.MIN_VALUE, Integer.MAX_VALUE}) {
            Seen.refused("32: set " + set, Seen::rich, map -> map.ask(set, 0), 1);
        }
        Seen.bounds("32: what", Seen::rich, (map, v) -> map.ask(3, v), 0, 1);
        Seen.refused("32: 1 ahead of 6", map -> { }, map -> map.ask(0, 2), 1);
        Seen.refused("32: 1 ahead of 6, set", map -> { }, map -> map.ask(1, 0), 1);
    }

    /** "6: fewer than two ways": none, one; two are enough. */
    private static void askFewerThanTwoWays() {
        String none = "place a;place b;walker u;leg u a b east 2 north 0;leg u a b east 3 north 0;";
        String one = "place a;place b;walker u;walker v;leg u a b east 1 north 2;leg v a b east 1 north 2;";
        for (int what = 0; what < 2; what++) {
            int w = what;
            Seen.refused("32: no way", map -> Due.town(map, none), map -> map.ask(1, w), 6);
            Seen.refused("32: one way", map -> Due.town(map, one), map -> map.ask(1, w), 6);
            Seen.refused("32: one way of none", Seen::rich, map -> map.ask(0, w), 6);
        }
        PacedMap two = mapOf(PAIR);
        Due.with("29: two ways", two, two.fits(1), 2, 0);
        Due.with("32: the first", two, two.ask(1, 0), 0, 0);
        Due.with("32: the second", two, two.ask(1, 1), 1, 0);
    }

    /** "no two PLACES are joined". */
    private static void askNoTwoPlacesAreJoined() {
        Seen.refused("32: no PLACES", map -> Due.town(map, "walker u;"), map -> map.ask(1, 0), 6);
        Seen.refused("32: one PLACE", map -> Due.town(map, "place a;walker u;"), map -> map.ask(1, 0), 6);
        Seen.refused("32: no LEG", map -> Due.town(map, TWO), map -> map.ask(1, 1), 6);
        Seen.Start struck = map -> {
            Due.town(map, TWO + "leg u a b east 1 north 0;");
            map.strike(0);
        };
        Seen.refused("32: STRUCK", struck, map -> map.ask(1, 1), 6);
        PacedMap map = Seen.begun(struck);
        map.restore(0);
        Due.with("32: RESTORED", map, map.ask(1, 1), 1, 0);
    }

    private static void ask(PacedMap map, int set, int first, int second) {
        Due.with("32: ASK of " + set + ", the first", map, map.ask(set, 0), first, 0);
        Due.with("32: ASK of " + set + ", the second", map, map.ask(set, 1), second, 0);
    }

    /** "by which they are parted the best: the most by which the second one LIES as far .. are the fewest". */
    private static void askTheMostAreTheFewest() {
        // Of 2 east each two FAULTS do the same, of 1 east 3 north none do, of 0, 0 all do.
        PacedMap map = mapOf("place a;place b;place c;place d;walker u;leg u a b east 0 north 0;leg u b c east 2 north 0;"
            + "leg u c d east 1 north 3;");
        ask(map, 1, 2, 3);
        map.tell(2, 1, 1);
        // From b to d it is 3 east 1 north: none alike.
        ask(map, 1, 0, 3);
        map.tell(2, 0, 0);
        ask(map, 1, 0, 2);
        map.tell(1, 0, 0);
        ask(map, 1, 0, 1);
        // Of two ways both count, the first one, too: a and b lie alike by both, a and c by neither.
        PacedMap two = mapOf(PAIR.replace("walker u", "place c;walker u") + "leg u a c east 1 north 3;");
        Due.with("29: two ways", two, two.fits(1), 2, 0);
        ask(two, 1, 0, 2);
        // Whoever told nothing parts nothing: 24 and 576 ways, all alike.
        PacedMap alike = mapOf("place a;place b;place c;walker u;walker v;walker w;leg u b c east 1 north 0;");
        Due.with("29: 24 alike", alike, alike.fits(4), 24, 0);
        ask(alike, 4, 1, 2);
        Due.with("29: 576 alike", alike, alike.fits(6), 576, 0);
        ask(alike, 6, 1, 2);
    }

    /** "of several the first by the one, then the other". */
    private static void askOfSeveralTheFirst() {
        PacedMap map = mapOf("place a;place b;place c;place d;walker u;leg u a d east 1 north 3;leg u b c east 1 north 3;"
            + "leg u b a east 0 north 0;");
        ask(map, 1, 0, 2);
        map.tell(1, 0, 0);
        ask(map, 1, 0, 3);
        map.tell(0, 0, 0);
        map.tell(1, 1, 3);
        ask(map, 1, 0, 2);
        map.tell(2, 1, 3);
        ask(map, 1, 0, 1);
    }

    /** "the two PLACES, joined by LEGS, the first one less than the second one": not 0 with those that it is not joined with. */
    private static void askTheFirstLessThanTheSecond() {
        PacedMap map = mapOf("place a;place b;place c;place d;walker u;leg u d c east 1 north 3;leg u a b east 0 north 0;");
        ask(map, 1, 2, 3);
        map.tell(0, 0, 0);
        ask(map, 1, 0, 1);
        map.strike(1);
        ask(map, 1, 2, 3);
    }

    /** "as far east and north": both, with their signs. */
    private static void askFarEastAndNorth() {
        // u's 2 east by 4 quarters and 3 STRIDES: each alike twice; 2 east 2 north, too, but 2 east 4 north never.
        PacedMap map = mapOf("place a;place b;place c;walker u;leg u a b east 2 north 2;leg u a c east 2 north 4;");
        ask(map, 1, 0, 2);
        map.tell(1, 4, 0);
        // From b to c it is 2 east 2 south, alike twice as the others are.
        ask(map, 1, 0, 1);
        PacedMap full = mapOf("place a;place b;place c;place d;place e;place f;place g;walker u;walker v;"
            + "leg u a b east 99 south 98;leg u b c east 99 south 98;leg u c d east 99 south 98;leg v d e east 99 south 98;"
            + "leg v e f east 99 south 98;leg v f g east 99 south 98;leg v a g east 0 north 0;");
        full.strike(6);
        // 3 times what is RIGHT by u and what is RIGHT by v: at most 8 alike, by 24 if there is one of them alone.
        ask(full, 3, 0, 4);
    }

    /** PLACE 6 of seven. */
    private static void askOfTheLastPlace() {
        String seven = "place a;place b;place c;place d;place e;place f;place g;walker u;";
        ask(mapOf(seven + "leg u a b east 2 north 0;leg u a g east 1 north 3;"), 1, 0, 6);
        ask(mapOf(seven + "leg u e f east 2 north 0;leg u g f east 1 north 3;"), 1, 4, 6);
        ask(mapOf(seven + "leg u f g east 1 north 3;"), 1, 5, 6);
    }

    /** "the most by which the second one LIES as far": those that lie elsewhere are not counted with them, wherever that is. */
    private static void askCountsApartWhatLiesApart() {
        for (int east = 1; east <= 10; east++) {
            PacedMap map = mapOf("place a;place b;place c;walker u;leg u a b east 2 north 0;leg u a c east 1 north 3;");
            for (int north = east + 1; north <= 99; north += 3) {
                // By all 24 FAULTS c lies elsewhere, as 0 < east < north; b lies alike by two each.
                map.tell(1, -9 * east, north);
                if (9 * east != north) {
                    ask(map, 1, 0, 2);
                }
            }
        }
    }
}
