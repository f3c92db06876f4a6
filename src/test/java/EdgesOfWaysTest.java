/** Ways and areas (promises 33 to 35): each sentence that names a boundary has a test of its own, told above it. */
public final class EdgesOfWaysTest {
    private static final String SEVEN = "place a;place b;place c;place d;place e;place f;place g;walker u;";
    private static final String APART = "place a;place b;place c;place d;place e;walker u;"
        + "leg u a b east 1 north 0;leg u b c east 0 north 2;leg u d e east 3 north 0;leg u e d west 3 north 1;";

    public static void main(String[] args) {
        wayNumbers();
        wayToItself();
        wayByNone();
        theFewestYards();
        theFewestOfLegsBesideOneAnother();
        alongLegsEitherWay();
        ofSeveralRowsTheFirst();
        oneThatEndsAheadOfOneThatGoesOn();
        placesNoneTwice();
        wayBySeven();
        wayAtNumbers();
        wayAtNoSuch();
        wayAtByNone();
        areaTrays();
        areaMissing();
        areaThreeToTwenty();
        areaTooFewNumbers();
        areaNumbersThatCannotBe();
        areaNowhere();
        areaOneAheadOfTheOther();
        goneRoundInThatOrder();
        itsHalfWithoutSign();
        areaTheMost();
        Due.end("EdgesOfWaysTest");
    }

    private static PacedMap mapOf(String town) {
        PacedMap map = new PacedMap();
        Due.with("town of " + town, map, Due.town(map, town) >= 0, true, 0);
        return map;
    }

    private static void way(PacedMap map, int yards, int... row) {
        int from = row[0];
        int to = row[row.length - 1];
        Due.with("33: WAY from " + from + " to " + to, map, map.way(from, to), yards, 0);
        for (int k = 0; k < row.length; k++) {
            Due.with("34: " + k + " of the WAY from " + from + " to " + to, map, map.wayAt(from, to, k), row[k], 0);
        }
        Due.with("34: no such of the WAY from " + from + " to " + to, map, map.wayAt(from, to, row.length), -1, 6);
    }

    /** way "(1 ..)": each of the two. */
    private static void wayNumbers() {
        Seen.Start start = map -> Due.town(map, Seen.TOWN);
        Seen.bounds("33: PLACE", start, (map, v) -> map.way(v, 2), 0, 3);
        Seen.bounds("33: other", start, (map, v) -> map.way(2, v), 0, 3);
        Seen.refused("33: without PLACES", map -> Due.town(map, "walker u;"), map -> map.way(0, 1), 1);
        Seen.refused("33: both without PLACES", map -> { }, map -> map.way(0, 0), 1);
    }

    /** "(1: to itself, too ..)". */
    private static void wayToItself() {
        for (int p = 0; p < 4; p++) {
            int place = p;
            Seen.refused("33: to itself " + p, Seen::rich, map -> map.way(place, place), 1);
            Seen.refused("34: to itself " + p, Seen::rich, map -> map.wayAt(place, place, 0), 1);
        }
    }

    /** "6: by none": apart, or by LEGS that are STRUCK alone. */
    private static void wayByNone() {
        Seen.Start apart = map -> Due.town(map, APART);
        Seen.refused("33: by none", apart, map -> map.way(0, 3), 6);
        Seen.refused("33: by none back", apart, map -> map.way(4, 2), 6);
        Seen.refused("33: without LEGS", map -> Due.town(map, SEVEN), map -> map.way(0, 6), 6);
        Seen.Start struck = map -> {
            Due.town(map, APART);
            map.strike(1);
        };
        Seen.refused("33: STRUCK", struck, map -> map.way(0, 2), 6);
        way(mapOf(APART), 3, 3, 4);
    }

    /** "the fewest YARDS along LEGS": by more LEGS if they are fewer; by what is RIGHT. */
    private static void theFewestYards() {
        PacedMap map = mapOf("place a;place b;place c;walker u;walker v;leg u a c east 5 south 6;leg v a b east 5 north 0;leg v b c west 0 south 5;");
        way(map, 10, 0, 1, 2);
        map.tell(0, 5, -4);
        way(map, 9, 0, 2);
        map.believe(0, 8);
        way(map, 10, 0, 1, 2);
        map.believe(1, 16);
        way(map, 18, 0, 2);
        map.strike(0);
        way(map, 30, 0, 1, 2);
    }

    /** Of LEGS between the same two PLACES the shortest counts, wherever it stands among them. */
    private static void theFewestOfLegsBesideOneAnother() {
        PacedMap map = mapOf("place a;place b;walker u;leg u a b east 5 north 0;leg u b a east 3 north 0;leg u a b east 4 north 0;");
        way(map, 3, 0, 1);
        map.tell(1, 9, 0);
        way(map, 4, 0, 1);
        map.tell(2, 9, 0);
        way(map, 5, 1, 0);
        map.tell(1, 0, 0);
        way(map, 0, 0, 1);
    }

    /** LEGS are gone along either way. */
    private static void alongLegsEitherWay() {
        PacedMap map = mapOf("place a;place b;place c;walker u;leg u b a east 1 north 2;leg u b c west 3 south 4;");
        way(map, 10, 0, 1, 2);
        way(map, 10, 2, 1, 0);
        way(map, 3, 0, 1);
        way(map, 3, 1, 0);
    }

    /** "of several rows of PLACES .. the first, one by one". */
    private static void ofSeveralRowsTheFirst() {
        PacedMap map = mapOf(SEVEN + "leg u a c east 1 north 0;leg u c g east 2 north 0;leg u a b east 2 north 0;leg u b g east 1 north 0;"
            + "leg u a f east 0 north 0;leg u f g east 0 north 3;");
        way(map, 3, 0, 1, 6);
        map.strike(2);
        way(map, 3, 0, 2, 6);
        map.strike(0);
        way(map, 3, 0, 5, 6);
        // a, b, d, e and a, b, c, f, e: the third decides, not how many there are.
        PacedMap third = mapOf(SEVEN + "leg u a b east 1 north 0;leg u b d east 1 north 0;leg u d e east 2 north 0;leg u b c east 1 north 0;"
            + "leg u c f east 1 north 0;leg u f e east 1 north 0;");
        way(third, 4, 0, 1, 2, 5, 4);
        third.strike(3);
        way(third, 4, 0, 1, 3, 4);
    }

    /** "(one that ends ahead of one that goes on)": it ends where it is to end; by b, which is less, it goes on. */
    private static void oneThatEndsAheadOfOneThatGoesOn() {
        PacedMap map = mapOf("place a;place b;place c;walker u;leg u a c east 0 north 0;leg u c b east 0 north 0;leg u a b east 0 north 0;");
        way(map, 0, 0, 1);
        way(map, 0, 0, 1, 2);
        way(map, 0, 1, 0);
        way(map, 0, 1, 0, 2);
        way(map, 0, 2, 0);
        way(map, 0, 2, 0, 1);
    }

    /** "rows of PLACES (none twice)". */
    private static void placesNoneTwice() {
        PacedMap map = mapOf("place a;place b;place c;place d;walker u;leg u d b east 0 north 0;leg u b a east 0 north 0;leg u b c east 0 north 0;");
        way(map, 0, 3, 1, 2);
        way(map, 0, 2, 1, 3);
        way(map, 0, 0, 1, 2);
        map.pace(0, 0, 2, 0, 0);
        way(map, 0, 3, 1, 0, 2);
        way(map, 0, 0, 1, 2);
        way(map, 0, 2, 0, 1, 3);
    }

    /** A row of all seven. */
    private static void wayBySeven() {
        PacedMap map = mapOf(SEVEN + "leg u a g east 1 north 0;leg u g b east 1 north 0;leg u b f east 1 north 0;leg u f c east 1 north 0;"
            + "leg u c e east 1 north 0;leg u e d east 1 north 0;leg u a d east 6 north 1;");
        way(map, 6, 0, 6, 1, 5, 2, 4, 3);
        map.tell(6, 6, 0);
        way(map, 6, 0, 3);
        map.tell(6, 3, 2);
        way(map, 5, 0, 3);
        PacedMap none = mapOf(SEVEN + "leg u a b east 0 north 0;leg u b c east 0 north 0;leg u c d east 0 north 0;leg u d e east 0 north 0;"
            + "leg u e f east 0 north 0;leg u f g east 0 north 0;leg u a g east 0 north 0;leg u b g east 0 north 0;");
        way(none, 0, 0, 1, 2, 3, 4, 5, 6);
    }

    /** wayAt "(1: k below 0, to itself, too ..)". */
    private static void wayAtNumbers() {
        Seen.Start start = map -> Due.town(map, Seen.TOWN);
        Seen.bounds("34: PLACE", start, (map, v) -> map.wayAt(v, 2, 0), 0, 3);
        Seen.bounds("34: other", start, (map, v) -> map.wayAt(2, v, 0), 0, 3);
        Seen.refused("34: k -1", start, map -> map.wayAt(0, 2, -1), 1);
        Seen.refused("34: k far below", start, map -> map.wayAt(0, 2, Integer.MIN_VALUE), 1);
        Seen.refused("34: 1 ahead of 6: k -1 of none", map -> Due.town(map, APART), map -> map.wayAt(0, 3, -1), 1);
        Seen.refused("34: 1 ahead of 6: to itself", start, map -> map.wayAt(1, 1, 99), 1);
        Seen.refused("34: 1 ahead of 6: no such PLACE", start, map -> map.wayAt(0, 4, 99), 1);
    }

    /** "the k-th PLACE, from 0 (the first one) on (.. 6: .. no such)". */
    private static void wayAtNoSuch() {
        Seen.Start start = map -> Due.town(map, Seen.TOWN);
        Seen.only("34: the first one", start, map -> map.wayAt(0, 2, 0), 0);
        Seen.only("34: the last one", start, map -> map.wayAt(0, 2, 2), 2);
        for (int k : new int[] {3, 4, 7, Integer.MAX_VALUE}) {
            Seen.refused("34: no such " + k, start, map -> map.wayAt(0, 2, k), 6);
        }
        Seen.refused("34: no such behind two", start, map -> map.wayAt(0, 1, 2), 6);
        PacedMap map = Seen.begun(start);
        map.wayAt(0, 2, 2);
        Due.with("34: not by one ahead that was longer", map, map.wayAt(0, 1, 2), -1, 6);
    }

    /** "(.. 6: by none ..)". */
    private static void wayAtByNone() {
        for (int k : new int[] {0, 1, Integer.MAX_VALUE}) {
            Seen.refused("34: by none, " + k, map -> Due.town(map, APART), map -> map.wayAt(0, 3, k), 6);
        }
        PacedMap map = mapOf(APART);
        map.wayAt(0, 2, 0);
        Due.with("34: by none, behind one that there is", map, map.wayAt(0, 4, 0), -1, 6);
    }

    private static void corners(PacedMap map, int tray, int... places) {
        map.tray(tray, 2, places.length);
        for (int i = 0; i < places.length; i++) {
            map.write(tray, i, places[i]);
        }
    }

    /** area "(1 ..)": TRAY. */
    private static void areaTrays() {
        Seen.Start all = map -> {
            Seen.rich(map);
            for (int tray = 0; tray < 4; tray++) {
                map.tray(tray, tray, 3);
            }
        };
        Seen.bounds("35: TRAY", all, (map, v) -> map.area(v, 3), 0, 3);
    }

    /** "2": MISSING. */
    private static void areaMissing() {
        Seen.refused("35: MISSING", Seen::rich, map -> map.area(3, 3), 2);
        for (int t = 0; t < 4; t++) {
            int tray = t;
            Seen.refused("35: MISSING at first", map -> { }, map -> map.area(tray, 20), 2);
        }
    }

    /** "its first n (3 to 20) numbers". */
    private static void areaThreeToTwenty() {
        Seen.Start twenty = map -> {
            Seen.rich(map);
            map.tray(3, 0, 21);
        };
        Seen.bounds("35: n", twenty, (map, v) -> map.area(3, v), 3, 20);
        Seen.Start exact = map -> {
            Seen.rich(map);
            map.tray(3, 0, 20);
        };
        PacedMap map = Seen.begun(exact);
        Due.with("35: 20 of 20", map, map.area(3, 20), true, 0);
        Due.with("35: 21 of 20", map, map.area(3, 21), false, 1);
    }

    /** "3": too few numbers; as many as there are are taken. */
    private static void areaTooFewNumbers() {
        Seen.refused("35: 4 of 3", Seen::rich, map -> map.area(0, 4), 3);
        Seen.refused("35: 20 of 3", Seen::rich, map -> map.area(0, 20), 3);
        Seen.Start none = map -> map.tray(1, 1, 0);
        Seen.refused("35: 3 of none", none, map -> map.area(1, 3), 3);
        PacedMap map = Seen.begun(Seen::rich);
        Due.with("35: 3 of 3", map, map.area(0, 3), true, 0);
    }

    /** "5": "a number in a TRAY that can't be": no PLACE; behind the first n any number may stand. */
    private static void areaNumbersThatCannotBe() {
        for (long bad : new long[] {4, -1, 1L << 32, (1L << 32) + 1, Long.MIN_VALUE, Long.MAX_VALUE, 1L << 63 | 1}) {
            for (int i = 0; i < 3; i++) {
                int at = i;
                Seen.Start start = map -> {
                    Seen.rich(map);
                    map.tray(3, 3, 4);
                    map.write(3, at, bad);
                };
                Seen.refused("35: " + bad + " at " + i, start, map -> map.area(3, 3), 5);
            }
            PacedMap map = Seen.begun(Seen::rich);
            map.tray(3, 3, 4);
            map.write(3, 3, bad);
            Due.with("35: " + bad + " behind", map, map.area(3, 3), true, 0);
            Due.with("35: " + bad + " not behind", map, map.area(3, 4), false, 5);
        }
        Seen.refused("35: without PLACES", map -> map.tray(0, 0, 3), map -> map.area(0, 3), 5);
        PacedMap map = mapOf(SEVEN + "leg u a g east 1 north 0;");
        corners(map, 0, 6, 6, 6);
        Due.with("35: PLACE 6 of seven", map, map.area(0, 3), true, 0);
        corners(map, 0, 6, 6, 7);
        Due.with("35: PLACE 7 of seven", map, map.area(0, 3), false, 5);
    }

    /** "6: a PLACE LIES nowhere": each of them. */
    private static void areaNowhere() {
        for (int i = 0; i < 3; i++) {
            int at = i;
            Seen.Start start = map -> {
                Due.town(map, APART);
                map.misread(2, 1);
                map.tray(0, 0, 4);
                map.write(0, at, 3);
            };
            Seen.refused("35: nowhere at " + i, start, map -> map.area(0, 3), 6);
        }
        PacedMap map = mapOf(APART);
        corners(map, 0, 0, 1, 2, 3);
        Due.with("35: nowhere behind", map, map.area(0, 3), true, 0);
        Due.with("35: nowhere not behind", map, map.area(0, 4), false, 6);
    }

    /** "(1; 2; 3; 5; 6 ..)": of two the first. */
    private static void areaOneAheadOfTheOther() {
        Seen.refused("35: 1 ahead of 2", Seen::rich, map -> map.area(3, 2), 1);
        Seen.refused("35: 1 ahead of 2, many", Seen::rich, map -> map.area(3, 21), 1);
        Seen.refused("35: 1 ahead of 3", Seen::rich, map -> map.area(0, 21), 1);
        Seen.refused("35: 1 ahead of 5", Seen::rich, map -> map.area(1, 2), 1);
        Seen.refused("35: 2 ahead of 3", Seen::rich, map -> map.area(3, 20), 2);
        Seen.Start bad = map -> {
            Seen.rich(map);
            map.tray(3, 0, 3);
            map.write(3, 0, 99);
        };
        Seen.refused("35: 3 ahead of 5", bad, map -> map.area(3, 4), 3);
        for (int i = 0; i < 3; i++) {
            int at = i;
            Seen.Start both = map -> {
                Due.town(map, APART);
                corners(map, 0, 3, 3, 3);
                map.write(0, at, 5);
            };
            Seen.refused("35: 5 ahead of 6, at " + i, both, map -> map.area(0, 3), 5);
            Seen.refused("35: 3 ahead of 6, at " + i, both, map -> map.area(0, 4), 3);
        }
    }

    /** "gone round in that order and back to the first". */
    private static void goneRoundInThatOrder() {
        // A square a, b, c, d of 4 by 6, and a point e amid it.
        PacedMap map = mapOf("place a;place b;place c;place d;place e;walker u;leg u a b east 4 north 0;leg u b c east 0 north 6;"
            + "leg u c d west 4 north 0;leg u a e east 2 north 3;");
        corners(map, 0, 0, 1, 2, 3);
        Due.fraction("35: the square", map, map.area(0, 4), 24, 1);
        Due.fraction("35: its half", map, map.area(0, 3), 12, 1);
        corners(map, 0, 0, 2, 1, 3);
        Due.fraction("35: crossed over", map, map.area(0, 4), 0, 1);
        corners(map, 0, 0, 1, 4);
        Due.fraction("35: a quarter", map, map.area(0, 3), 6, 1);
        // b (4, 0), c (4, 6), d (0, 6): 24 and 24 less 24, each of them from another one to the next.
        corners(map, 0, 1, 2, 3);
        Due.fraction("35: without a", map, map.area(0, 3), 12, 1);
        corners(map, 0, 3, 1, 2);
        Due.fraction("35: without a, from d on", map, map.area(0, 3), 12, 1);
        corners(map, 0, 2, 4, 1);
        Due.fraction("35: c, e, b", map, map.area(0, 3), 6, 1);
        corners(map, 0, 1, 2, 4, 3);
        Due.fraction("35: from b on", map, map.area(0, 4), 6, 1);
        corners(map, 0, 0, 1, 2, 3, 0, 1, 2, 3);
        Due.fraction("35: twice round", map, map.area(0, 8), 48, 1);
        corners(map, 0, 0, 1, 2, 3, 0, 3, 2, 1);
        Due.fraction("35: round and back", map, map.area(0, 8), 0, 1);
        corners(map, 0, 2, 2, 2);
        Due.fraction("35: one point", map, map.area(0, 3), 0, 1);
        corners(map, 0, 0, 2, 0);
        Due.fraction("35: there and back", map, map.area(0, 3), 0, 1);
    }

    /** "its half without sign", a FRACTION "without a common divisor". */
    private static void itsHalfWithoutSign() {
        PacedMap map = mapOf("place a;place b;place c;walker u;leg u a b east 1 north 0;leg u a c east 0 north 1;");
        corners(map, 0, 0, 1, 2);
        Due.fraction("35: a half", map, map.area(0, 3), 1, 2);
        corners(map, 0, 0, 2, 1);
        Due.fraction("35: the other way round", map, map.area(0, 3), 1, 2);
        map.tell(1, 0, -3);
        Due.fraction("35: below", map, map.area(0, 3), 3, 2);
        map.tell(0, -2, 0);
        Due.fraction("35: a whole", map, map.area(0, 3), 3, 1);
        map.tell(0, 0, 0);
        Due.fraction("35: nothing is 0 by 1", map, map.area(0, 3), 0, 1);
    }

    /** As far as PLACES can LIE, gone round as often as can be. */
    private static void areaTheMost() {
        PacedMap map = mapOf("place a;place b;place c;walker u stride 3;leg u a b east 99 north 99;leg u b c west 99 north 99;");
        int[] round = new int[20];
        for (int i = 0; i < 20; i++) {
            round[i] = i % 3;
        }
        corners(map, 0, round);
        // Each round of three is 297 times 297; of the last two corners, a and b, nothing comes.
        Due.fraction("35: six times round", map, map.area(0, 20), 6L * 297 * 297, 1);
        Due.fraction("35: once", map, map.area(0, 3), 297 * 297, 1);
    }
}
