/** TRAYS (promises 5 to 8): each sentence that names a boundary has a test of its own, told above it. */
public final class EdgesOfTraysTest {
    public static void main(String[] args) {
        traysZeroToThree();
        missingAtFirst();
        zeroToSixtyNumbers();
        sortsZeroToThree();
        numbersOfEightBits();
        numbersOfSixteenBits();
        numbersOfThirtyTwoBits();
        numbersOfSixtyFourBits();
        aRowOfZeros();
        aTrayAnewIsInPlaceOfTheOld();
        placesOfATray();
        statusTellsNoneFromMinusOne();
        pourBelowZero();
        pourMissing();
        pourUnlikeSorts();
        pourPlacesThatATrayHasNot();
        pourInThisOrder();
        pourAsTheyWere();
        pourToItsOwn();
        Due.end("EdgesOfTraysTest");
    }

    /** "TRAYS 0 to 3": "no such TRAY" is STATUS 1. */
    private static void traysZeroToThree() {
        Seen.Start all = map -> {
            Seen.rich(map);
            map.tray(3, 0, 8);
        };
        Seen.bounds("5: tray of TRAY", all, (map, v) -> map.tray(v, 1, 2), 0, 3);
        Seen.bounds("6: write to TRAY", all, (map, v) -> map.write(v, 0, 5), 0, 3);
        Seen.bounds("7: read from TRAY", all, (map, v) -> map.read(v, 0), 0, 3);
        Seen.Start alike = map -> {
            Seen.rich(map);
            for (int tray = 0; tray < 4; tray++) {
                map.tray(tray, 1, 2);
            }
        };
        Seen.bounds("8: pour from TRAY", alike, (map, v) -> map.pour(v, 0, 1, 0, 1), 0, 3);
        Seen.bounds("8: pour to TRAY", alike, (map, v) -> map.pour(1, 0, v, 0, 1), 0, 3);
    }

    /** "TRAYS 0 to 3 are MISSING at first": read, write, pour are STATUS 2; each TRAY by itself. */
    private static void missingAtFirst() {
        for (int t = 0; t < 4; t++) {
            int tray = t;
            Seen.refused("7: read, MISSING " + tray, map -> { }, map -> map.read(tray, 0), 2);
            Seen.refused("6: write, MISSING " + tray, map -> { }, map -> map.write(tray, 0, 1), 2);
            Seen.refused("8: pour, MISSING " + tray, map -> { }, map -> map.pour(tray, 0, tray, 0, 0), 2);
            PacedMap map = new PacedMap();
            map.tray(tray, 0, 1);
            for (int other = 0; other < 4; other++) {
                Due.with("5: TRAY " + tray + " alone, not " + other, map, map.read(other, 0), other == tray ? 0 : -1, other == tray ? 0 : 2);
            }
        }
    }

    /** "rows of 0 to 60 numbers": none, one, 60; not -1, not 61. */
    private static void zeroToSixtyNumbers() {
        Seen.bounds("5: so many", Seen::rich, (map, v) -> map.tray(2, 1, v), 0, 60);
        Seen.bounds("5: so many of a MISSING one", Seen::rich, (map, v) -> map.tray(3, 1, v), 0, 60);
        for (int many : new int[] {0, 1, 2, 59, 60}) {
            PacedMap map = new PacedMap();
            Due.with("5: " + many, map, map.tray(1, 3, many), true, 0);
            for (int place = 0; place < many; place++) {
                Due.with("6: place " + place + " of " + many, map, map.write(1, place, place + 7), true, 0);
            }
            for (int place = 0; place < many; place++) {
                Due.with("7: place " + place + " of " + many, map, map.read(1, place), place + 7, 0);
            }
            Due.with("7: no place " + many, map, map.read(1, many), -1, 3);
        }
    }

    /** "8 bits (sort 0), 16 (1), 32 (2) or 64 (3)": no sort -1, no sort 4. */
    private static void sortsZeroToThree() {
        Seen.bounds("5: sort", Seen::rich, (map, v) -> map.tray(1, v, 2), 0, 3);
    }

    private static void cut(int sort, long v, long want) {
        PacedMap map = new PacedMap();
        map.tray(0, sort, 2);
        Due.with("6: " + v + " to sort " + sort, map, map.write(0, 1, v), true, 0);
        Due.with("6: " + v + " cut to sort " + sort, map, map.read(0, 1), want, 0);
        Due.with("6: beside it", map, map.read(0, 0), 0, 0);
    }

    /** Numbers of each sort: the least, the most, and round it by one more. */
    private static void wrapsAt(int sort, long most) {
        cut(sort, most, most);
        cut(sort, -most - 1, -most - 1);
        cut(sort, most + 1, -most - 1);
        cut(sort, -most - 2, most);
        cut(sort, 2 * most + 1, -1);
        cut(sort, 2 * most + 2, 0);
        cut(sort, -2 * most - 2, 0);
        cut(sort, Long.MAX_VALUE, -1);
        cut(sort, Long.MIN_VALUE, 0);
        cut(sort, -1, -1);
    }

    /** "numbers of 8 bits (sort 0)", "cut to its sort". */
    private static void numbersOfEightBits() {
        wrapsAt(0, 127);
    }

    /** "16 (1)". */
    private static void numbersOfSixteenBits() {
        wrapsAt(1, 32767);
    }

    /** "32 (2)". */
    private static void numbersOfThirtyTwoBits() {
        wrapsAt(2, Integer.MAX_VALUE);
    }

    /** "64 (3)": nothing is cut. */
    private static void numbersOfSixtyFourBits() {
        for (long v : new long[] {Long.MAX_VALUE, Long.MIN_VALUE, Long.MAX_VALUE - 1, 1L << 32, -1, 0}) {
            cut(3, v, v);
        }
    }

    /** "A TRAY is a row of so many 0s": also where there was something. */
    private static void aRowOfZeros() {
        for (int sort = 0; sort < 4; sort++) {
            PacedMap map = new PacedMap();
            map.tray(0, sort, 60);
            for (int place = 0; place < 60; place++) {
                Due.with("5: 0 at " + place, map, map.read(0, place), 0, 0);
            }
            map.write(0, 0, 5);
            map.write(0, 59, 6);
            map.tray(0, sort, 1);
            map.tray(0, sort, 60);
            Due.with("5: 0 again", map, map.read(0, 0), 0, 0);
            Due.with("5: 0 again, last", map, map.read(0, 59), 0, 0);
        }
    }

    /** A TRAY taken anew has the new sort and the new length; the others stay. */
    private static void aTrayAnewIsInPlaceOfTheOld() {
        PacedMap map = new PacedMap();
        map.tray(0, 3, 9);
        map.tray(1, 3, 9);
        map.write(1, 8, 300);
        map.tray(0, 0, 2);
        map.write(0, 1, 300);
        Due.with("5: cut to the new sort", map, map.read(0, 1), 44, 0);
        Due.with("5: the old place is gone", map, map.read(0, 2), -1, 3);
        Due.with("5: the other one stays", map, map.read(1, 8), 300, 0);
    }

    /** "a place that the TRAY has not" (3): below 0, too, and of a TRAY of none each one. */
    private static void placesOfATray() {
        for (int place : new int[] {-1, 3, 60, Integer.MIN_VALUE, Integer.MAX_VALUE}) {
            Seen.refused("6: write at " + place, Seen::rich, map -> map.write(0, place, 9), 3);
            Seen.refused("7: read at " + place, Seen::rich, map -> map.read(0, place), 3);
        }
        Seen.Start none = map -> map.tray(3, 2, 0);
        for (int place = -1; place < 2; place++) {
            int at = place;
            Seen.refused("6: write to none at " + at, none, map -> map.write(3, at, 9), 3);
            Seen.refused("7: read of none at " + at, none, map -> map.read(3, at), 3);
        }
        Seen.only("7: the first", Seen::rich, map -> map.read(0, 0), 0);
        Seen.only("7: the last", Seen::rich, map -> map.read(1, 7), -77777);
    }

    /** "STATUS tells NONE from -1". */
    private static void statusTellsNoneFromMinusOne() {
        PacedMap map = new PacedMap();
        map.tray(0, 0, 1);
        map.write(0, 0, -1);
        Due.with("7: -1", map, map.read(0, 0), -1, 0);
        Due.with("7: NONE", map, map.read(0, 1), -1, 3);
        Due.with("7: -1 again", map, map.read(0, 0), -1, 0);
    }

    /** "(1: below 0, too ..)": each of the three numbers. */
    private static void pourBelowZero() {
        for (int v : new int[] {-1, Integer.MIN_VALUE}) {
            Seen.refused("8: place " + v, Seen::rich, map -> map.pour(0, v, 2, 0, 1), 1);
            Seen.refused("8: at " + v, Seen::rich, map -> map.pour(0, 0, 2, v, 1), 1);
            Seen.refused("8: many " + v, Seen::rich, map -> map.pour(0, 0, 2, 0, v), 1);
        }
        Seen.only("8: 0 each", Seen::rich, map -> map.pour(0, 0, 0, 0, 0), 1);
    }

    /** "(.. 2 ..)": the one or the other one. */
    private static void pourMissing() {
        Seen.refused("8: from MISSING", Seen::rich, map -> map.pour(3, 0, 0, 0, 0), 2);
        Seen.refused("8: to MISSING", Seen::rich, map -> map.pour(0, 0, 3, 0, 0), 2);
        Seen.refused("8: both MISSING", Seen::rich, map -> map.pour(3, 0, 3, 0, 0), 2);
    }

    /** "TRAYS are of unlike sorts" (8): of each two sorts. */
    private static void pourUnlikeSorts() {
        for (int sort = 0; sort < 4; sort++) {
            for (int other = 0; other < 4; other++) {
                int one = sort;
                int two = other;
                Seen.Start start = map -> {
                    map.tray(0, one, 2);
                    map.tray(1, two, 2);
                    map.write(0, 0, 7);
                };
                if (one == two) {
                    PacedMap map = Seen.begun(start);
                    Due.with("8: alike " + one, map, map.pour(0, 0, 1, 1, 1), true, 0);
                    Due.with("8: it came", map, map.read(1, 1), 7, 0);
                } else {
                    Seen.refused("8: " + one + " to " + two, start, map -> map.pour(0, 0, 1, 0, 1), 8);
                    Seen.refused("8: none of " + one + " to " + two, start, map -> map.pour(0, 0, 1, 0, 0), 8);
                }
            }
        }
    }

    /** "(.. 3 ..)": one beyond the end of the one, of the other one; none at the very end is taken. */
    private static void pourPlacesThatATrayHasNot() {
        Seen.Start start = map -> {
            map.tray(0, 2, 5);
            map.tray(1, 2, 3);
            for (int i = 0; i < 5; i++) {
                map.write(0, i, i + 1);
            }
        };
        int most = Integer.MAX_VALUE;
        Seen.refused("8: 6 of 5", start, map -> map.pour(0, 0, 0, 0, 6), 3);
        Seen.refused("8: 4 to 3", start, map -> map.pour(0, 0, 1, 0, 4), 3);
        Seen.refused("8: 4 of 3", start, map -> map.pour(1, 0, 0, 0, 4), 3);
        Seen.refused("8: 2 from 4 on", start, map -> map.pour(0, 4, 1, 0, 2), 3);
        Seen.refused("8: 2 to 2 on", start, map -> map.pour(0, 0, 1, 2, 2), 3);
        Seen.refused("8: none from 6 on", start, map -> map.pour(0, 6, 1, 0, 0), 3);
        Seen.refused("8: none to 4 on", start, map -> map.pour(0, 0, 1, 4, 0), 3);
        Seen.refused("8: far from", start, map -> map.pour(0, most, 1, 0, 1), 3);
        Seen.refused("8: far to", start, map -> map.pour(0, 0, 1, most, 1), 3);
        Seen.refused("8: far many", start, map -> map.pour(0, 0, 1, 0, most), 3);
        Seen.refused("8: far all", start, map -> map.pour(0, most, 1, most, most), 3);
        Seen.refused("8: far many from 1 on", start, map -> map.pour(0, 1, 0, 1, most), 3);
        Seen.only("8: none from the end on", start, map -> map.pour(0, 5, 1, 3, 0), 1);
        PacedMap map = Seen.begun(start);
        Due.with("8: 3 from 2 on, to 0 on", map, map.pour(0, 2, 1, 0, 3), true, 0);
        for (int i = 0; i < 3; i++) {
            Due.with("8: number " + i, map, map.read(1, i), i + 3, 0);
        }
        Due.with("8: the last to the last", map, map.pour(0, 0, 1, 2, 1), true, 0);
        Due.with("8: ahead of it stays", map, map.read(1, 1), 4, 0);
        Due.with("8: it came", map, map.read(1, 2), 1, 0);
        for (int i = 0; i < 5; i++) {
            Due.with("8: the one it came from stays", map, map.read(0, i), i + 1, 0);
        }
    }

    /** "asked in this order": 1, 2, 8, 3. */
    private static void pourInThisOrder() {
        // TRAY 0 and 2 are of sort 0, TRAY 1 of sort 2, TRAY 3 is MISSING.
        Seen.refused("8: 1 ahead of 2", Seen::rich, map -> map.pour(3, -1, 0, 0, 0), 1);
        Seen.refused("8: 1 ahead of 2, to", Seen::rich, map -> map.pour(0, 0, 3, -1, 0), 1);
        Seen.refused("8: 1 of the other ahead of 2", Seen::rich, map -> map.pour(3, 0, 4, 0, 0), 1);
        Seen.refused("8: 1 ahead of 8", Seen::rich, map -> map.pour(0, 0, 1, 0, -1), 1);
        Seen.refused("8: 1 ahead of 3", Seen::rich, map -> map.pour(0, 99, 2, -1, 0), 1);
        Seen.refused("8: 2 ahead of 3", Seen::rich, map -> map.pour(3, 99, 0, 99, 99), 2);
        Seen.refused("8: 2 ahead of 3 and 8", Seen::rich, map -> map.pour(1, 99, 3, 99, 99), 2);
        Seen.refused("8: 8 ahead of 3", Seen::rich, map -> map.pour(0, 99, 1, 0, 0), 8);
        Seen.refused("8: 8 ahead of 3, to", Seen::rich, map -> map.pour(1, 0, 0, 0, 99), 8);
    }

    /** "as they were": also where the one row lies over the other one, ahead of it or behind it. */
    private static void pourAsTheyWere() {
        for (int from = 0; from < 4; from++) {
            for (int at = 0; at < 4; at++) {
                PacedMap map = new PacedMap();
                map.tray(2, 1, 6);
                for (int i = 0; i < 6; i++) {
                    map.write(2, i, 10 + i);
                }
                Due.with("8: from " + from + " to " + at, map, map.pour(2, from, 2, at, 3), true, 0);
                for (int i = 0; i < 6; i++) {
                    int want = i >= at && i < at + 3 ? 10 + i - at + from : 10 + i;
                    Due.with("8: from " + from + " to " + at + ", number " + i, map, map.read(2, i), want, 0);
                }
            }
        }
    }

    /** "(or its own)": all 60 of a TRAY. */
    private static void pourToItsOwn() {
        PacedMap map = new PacedMap();
        map.tray(0, 0, 60);
        map.tray(1, 0, 60);
        map.write(0, 0, 1);
        map.write(0, 59, -1);
        Due.with("8: 60 to itself", map, map.pour(0, 0, 0, 0, 60), true, 0);
        Due.with("8: 60 to another one", map, map.pour(0, 0, 1, 0, 60), true, 0);
        Due.with("8: the first", map, map.read(1, 0), 1, 0);
        Due.with("8: the last", map, map.read(1, 59), -1, 0);
        Due.with("8: 59 by one on", map, map.pour(0, 0, 0, 1, 59), true, 0);
        Due.with("8: 60 by one on", map, map.pour(0, 0, 0, 1, 60), false, 3);
        Due.with("8: the second is the first", map, map.read(0, 1), 1, 0);
        Due.with("8: the last is gone", map, map.read(0, 59), 0, 0);
    }
}
