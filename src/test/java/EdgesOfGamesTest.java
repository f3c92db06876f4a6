/** Games, odds, copies (promises 36 to 40): each sentence that names a boundary has a test of its own, told above it. */
public final class EdgesOfGamesTest {
    private static final String SEVEN = "place a;place b;place c;place d;place e;place f;place g;walker u;";
    /** a in the middle of six others. */
    private static final String STAR = SEVEN + "leg u a b east 1 north 0;leg u a c east 2 north 0;leg u a d east 3 north 0;"
        + "leg u a e east 4 north 0;leg u a f east 5 north 0;leg u a g east 6 north 0;";
    /** a, b, .. g in a row. */
    private static final String ROW = SEVEN + "leg u f g east 1 north 0;leg u e f east 1 north 0;leg u d e east 1 north 0;"
        + "leg u c d east 1 north 0;leg u b c east 1 north 0;leg u a b east 1 north 0;";

    public static void main(String[] args) {
        gameNumbers();
        gameOfNoTurns();
        gameOfOneTurn();
        gameOfTwoTurns();
        gameOfThreeTurns();
        gameOfFourTurns();
        gameOrNothing();
        gameRestoresWhatWasStruckAhead();
        gameOfNothing();
        gameOfTwelveLegs();
        moveNumbers();
        moveNothing();
        moveTheFirstOfThoseAsGood();
        moveNothingComesLast();
        misreadNumbers();
        misreadKOrMore();
        misreadByOdds();
        misreadTheMost();
        fractionsWithoutACommonDivisor();
        shareNumbers();
        shareNoYards();
        shareWithoutSign();
        shareStruck();
        copyTrays();
        copyMissing();
        copyTooFew();
        copyNowhere();
        copyOneAheadOfTheOther();
        copyEastNorthOneBehindTheOther();
        copyCutToItsSort();
        copyOfNothing();
        Due.end("EdgesOfGamesTest");
    }

    private static PacedMap mapOf(String town) {
        PacedMap map = new PacedMap();
        Due.with("town of " + town, map, Due.town(map, town) >= 0, true, 0);
        return map;
    }

    private static void games(String what, PacedMap map, int... wants) {
        for (int n = 0; n < wants.length; n++) {
            Due.with("36: " + what + ", GAME of " + n, map, map.game(n), wants[n], 0);
        }
    }

    /** "GAME of n turns (0 to 4)". */
    private static void gameNumbers() {
        Seen.bounds("36: n", Seen::rich, (map, v) -> map.game(v), 0, 4);
        Seen.bounds("36: n without LEGS", map -> { }, (map, v) -> map.game(v), 0, 4);
    }

    /** None: "how many PLACES LIE somewhere in the end" is as it is. */
    private static void gameOfNoTurns() {
        games("a star", mapOf(STAR), 7);
        games("without LEGS", mapOf(SEVEN), 1);
        games("of nothing", new PacedMap(), 0);
    }

    /** "first one STRIKES a LEG": one PLACE of a star, all but a of a row. */
    private static void gameOfOneTurn() {
        games("a star", mapOf(STAR), 7, 6);
        games("a row", mapOf(ROW), 7, 1);
        games("one LEG", mapOf("place a;place b;walker u;leg u a b east 0 north 0;"), 2, 1);
        games("two LEGS beside one another", mapOf("place a;place b;walker u;leg u a b east 0 north 0;leg u a b east 0 north 0;"), 2, 2);
    }

    /** "then another RESTORES one": what was STRUCK comes back. */
    private static void gameOfTwoTurns() {
        games("a star", mapOf(STAR), 7, 6, 7);
        games("a row", mapOf(ROW), 7, 1, 7);
    }

    /** "by turns": the first once more. */
    private static void gameOfThreeTurns() {
        games("a star", mapOf(STAR), 7, 6, 7, 6);
        games("a row", mapOf(ROW), 7, 1, 7, 1);
        games("two LEGS beside one another", mapOf("place a;place b;walker u;leg u a b east 0 north 0;leg u a b east 0 north 0;"), 2, 2, 2, 2);
    }

    /** Four, with LEGS that are STRUCK ahead: the other one is the last. */
    private static void gameOfFourTurns() {
        games("a star", mapOf(STAR), 7, 6, 7, 6, 7);
        PacedMap row = mapOf(ROW);
        row.strike(5);
        row.strike(4);
        // a; b is joined by LEG 5, c then by LEG 4.
        games("a row without its first two", row, 1, 1, 2, 1, 2);
        PacedMap star = mapOf(STAR);
        star.strike(0);
        star.strike(1);
        star.strike(2);
        games("a star without three", star, 4, 3, 4, 3, 4);
    }

    /** "or nothing": the other one need not RESTORE, the first need not STRIKE. */
    private static void gameOrNothing() {
        PacedMap none = mapOf("place a;place b;walker u;");
        games("without LEGS", none, 1, 1, 1, 1, 1);
        PacedMap struck = mapOf("place a;place b;walker u;leg u a b east 1 north 0;");
        struck.strike(0);
        games("its LEG is STRUCK", struck, 1, 1, 2, 1, 2);
    }

    /** A LEG STRUCK ahead of the GAME may be RESTORED, too. */
    private static void gameRestoresWhatWasStruckAhead() {
        PacedMap map = mapOf("place a;place b;place c;place d;walker u;leg u a b east 1 north 0;leg u a c east 1 north 0;leg u c d east 1 north 0;");
        map.strike(1);
        // The first STRIKES LEG 0 or 2; the other one RESTORES LEG 1: a, c, d without b, or a, b, c without d.
        games("with one STRUCK", map, 2, 1, 3, 1, 3);
        Due.with("37: LEG 0", map, map.moveOf(2), 0, 0);
        Due.with("36: nothing is STRUCK by it", map, map.told(7), 2, 0);
    }

    /** Without PLACES, with one. */
    private static void gameOfNothing() {
        games("of nothing", new PacedMap(), 0, 0, 0, 0, 0);
        games("of one PLACE", mapOf("place a;"), 1, 1, 1, 1, 1);
    }

    /** As many LEGS as there can be. */
    private static void gameOfTwelveLegs() {
        PacedMap map = mapOf(STAR + "leg u b c east 1 north 0;leg u c d east 1 north 0;leg u d e east 1 north 0;leg u e f east 1 north 0;"
            + "leg u f g east 1 north 0;leg u g b east 1 north 0;");
        games("a wheel", map, 7, 7, 7, 7, 7);
        Due.with("37: the first of all", map, map.moveOf(4), 0, 0);
        for (int leg = 6; leg < 12; leg++) {
            map.strike(leg);
        }
        map.strike(0);
        games("its spokes", map, 6, 5, 6, 5, 6);
        Due.with("37: the first that is not STRUCK", map, map.moveOf(1), 1, 0);
        PacedMap last = mapOf("place a;place b;walker u;" + "leg u a b east 1 north 0;".repeat(12));
        for (int leg = 0; leg < 11; leg++) {
            last.strike(leg);
        }
        games("LEG 11", last, 2, 1, 2, 1, 2);
        Due.with("37: LEG 11", last, last.moveOf(1), 11, 0);
    }

    /** moveOf "(1: n 0, too ..)". */
    private static void moveNumbers() {
        Seen.bounds("37: n", Seen::rich, (map, v) -> map.moveOf(v), 1, 4);
        Seen.refused("37: 1 ahead of 6: 0", map -> { }, map -> map.moveOf(0), 1);
        Seen.refused("37: 1 ahead of 6: 5", map -> { }, map -> map.moveOf(5), 1);
    }

    /** "6: nothing": without LEGS, or with those that are STRUCK alone. */
    private static void moveNothing() {
        for (int t = 1; t <= 4; t++) {
            int n = t;
            Seen.refused("37: nothing in " + n, map -> { }, map -> map.moveOf(n), 6);
            Seen.Start struck = map -> {
                Due.town(map, ROW);
                for (int leg = 0; leg < 6; leg++) {
                    map.strike(leg);
                }
            };
            Seen.refused("37: all STRUCK in " + n, struck, map -> map.moveOf(n), 6);
        }
    }

    /** "the first's first LEG, of all that are as good the first". */
    private static void moveTheFirstOfThoseAsGood() {
        PacedMap star = mapOf(STAR);
        for (int n = 1; n <= 4; n++) {
            Due.with("37: of six as good, " + n, star, star.moveOf(n), 0, 0);
        }
        star.strike(0);
        Due.with("37: of five as good", star, star.moveOf(1), 1, 0);
        PacedMap row = mapOf(ROW);
        Due.with("37: the best is the last", row, row.moveOf(1), 5, 0);
        Due.with("37: it comes back, so all are as good", row, row.moveOf(2), 0, 0);
        Due.with("37: any first, LEG 5 at last", row, row.moveOf(3), 0, 0);
        row.pace(0, 1, 0, 1, 0);
        Due.with("36: two beside one another", row, row.game(1), 2, 0);
        Due.with("37: LEG 4 is the best", row, row.moveOf(1), 4, 0);
        Due.with("36: two STRIKES", row, row.game(3), 2, 0);
    }

    /** "nothing comes last": where a LEG is as good as nothing, the LEG is told. */
    private static void moveNothingComesLast() {
        PacedMap map = mapOf("place a;place b;place c;walker u;leg u b c east 0 north 0;");
        games("what LIES nowhere", map, 1, 1, 1, 1, 1);
        for (int n = 1; n <= 4; n++) {
            Due.with("37: though it changes nothing, " + n, map, map.moveOf(n), 0, 0);
        }
    }

    /** misread "(n, k 0 to 12) (1)". */
    private static void misreadNumbers() {
        Seen.bounds("38: n", Seen::rich, (map, v) -> map.misread(v, 2), 0, 12);
        Seen.bounds("38: k", Seen::rich, (map, v) -> map.misread(5, v), 0, 12);
    }

    /** "the odds that k or more are": all for k 0, none for k above n. */
    private static void misreadKOrMore() {
        PacedMap map = new PacedMap();
        map.rule(8);
        for (int n = 0; n <= 12; n++) {
            Due.fraction("38: 0 of " + n, map, map.misread(n, 0), 1, 1);
            Due.fraction("38: all of " + n, map, map.misread(n, n), 1, 1L << n);
            if (n < 12) {
                Due.fraction("38: one more than " + n, map, map.misread(n, n + 1), 0, 1);
                Due.fraction("38: 12 of " + n, map, map.misread(n, 12), 0, 1);
            }
        }
        Due.fraction("38: one of 12", map, map.misread(12, 1), 4095, 4096);
        Due.fraction("38: two of 4", map, map.misread(4, 2), 11, 16);
        Due.fraction("38: 6 of 12", map, map.misread(12, 6), 1255, 2048);
    }

    /** "misread by ODDS sixteenths": 0, 1, 15, 16. */
    private static void misreadByOdds() {
        PacedMap map = new PacedMap();
        Due.fraction("38: by 2 at first", map, map.misread(1, 1), 1, 8);
        map.rule(0);
        Due.fraction("38: by 0, none", map, map.misread(12, 0), 1, 1);
        Due.fraction("38: by 0, one", map, map.misread(12, 1), 0, 1);
        map.rule(1);
        Due.fraction("38: by 1", map, map.misread(1, 1), 1, 16);
        map.rule(15);
        Due.fraction("38: by 15", map, map.misread(1, 1), 15, 16);
        Due.fraction("38: by 15, one of 2", map, map.misread(2, 1), 255, 256);
        map.rule(16);
        Due.fraction("38: by 16, all", map, map.misread(12, 12), 1, 1);
        Due.fraction("38: by 16, one of none", map, map.misread(0, 1), 0, 1);
    }

    /** The greatest bottom: 16 to the 12th. */
    private static void misreadTheMost() {
        PacedMap map = new PacedMap();
        map.rule(1);
        Due.fraction("38: 12 by 1", map, map.misread(12, 12), 1, 1L << 48);
        map.rule(15);
        Due.fraction("38: 12 by 15", map, map.misread(12, 12), 129746337890625L, 1L << 48);
        map.rule(3);
        // 12 times 3 to the 11th times 13 and 3 to the 12th, by 16 to the 12th.
        Due.fraction("38: 11 by 3", map, map.misread(12, 11), 12L * 177147 * 13 + 531441, 1L << 48);
    }

    /** "FRACTIONS .. without a common divisor, the bottom above 0; 0 is 0 by 1." "The top of the FRACTION told latest." */
    private static void fractionsWithoutACommonDivisor() {
        PacedMap map = new PacedMap();
        map.rule(12);
        Due.fraction("3: 12 by 16", map, map.misread(1, 1), 3, 4);
        Due.with("3: refused", map, map.misread(13, 13), false, 1);
        Due.is("3: the top stays", map.top(), 3);
        Due.is("4: the bottom stays", map.bottom(), 4);
        map.town(0);
        map.mark();
        map.undo();
        Due.is("3: whatever else is done", map.top(), 3);
        Due.fraction("3: 0 by 16", map, map.misread(1, 2), 0, 1);
        Due.fraction("3: 16 by 16", map, map.misread(1, 0), 1, 1);
    }

    /** share "(1 ..)". */
    private static void shareNumbers() {
        Seen.bounds("39: WALKER", Seen::rich, (map, v) -> map.share(v), 0, 2);
        Seen.bounds("39: WALKER of four", Seen::full, (map, v) -> map.share(v), 0, 3);
        Seen.refused("39: without WALKERS", map -> Due.town(map, "place a;"), map -> map.share(0), 1);
        Seen.refused("39: 1 ahead of 6", map -> Due.town(map, "walker u;"), map -> map.share(1), 1);
    }

    /** "6: there are no YARDS": without LEGS, by those of no paces, by those that are STRUCK. */
    private static void shareNoYards() {
        Seen.refused("39: without LEGS", map -> Due.town(map, "walker u;"), map -> map.share(0), 6);
        Seen.refused("39: of no paces", map -> Due.town(map, "place a;place b;walker u;leg u a b east 0 north 0;"), map -> map.share(0), 6);
        Seen.Start struck = map -> {
            Due.town(map, "place a;place b;walker u;leg u a b east 1 north 0;leg u a b east 0 north 0;");
            map.misread(2, 1);
            map.strike(0);
        };
        Seen.refused("39: STRUCK", struck, map -> map.share(0), 6);
        PacedMap map = Seen.begun(struck);
        map.tell(1, 0, -1);
        Due.fraction("39: one yard", map, map.share(0), 1, 1);
    }

    /** "the YARDS of all LEGS (without sign) that a WALKER told": none, a part, all; by STRIDE. */
    private static void shareWithoutSign() {
        PacedMap map = mapOf("place a;place b;walker u;walker v;walker w;leg u a b west 3 north 3;leg v a b east 3 south 3;");
        Due.fraction("39: a half", map, map.share(0), 1, 2);
        Due.fraction("39: the other half", map, map.share(1), 1, 2);
        Due.fraction("39: none", map, map.share(2), 0, 1);
        map.believe(1, 16 + 5);
        Due.fraction("39: a quarter", map, map.share(0), 1, 4);
        map.tell(0, 0, 0);
        Due.fraction("39: all", map, map.share(1), 1, 1);
        PacedMap most = mapOf("place a;place b;walker u stride 3;walker v;" + "leg u a b west 99 south 99;".repeat(11) + "leg v a b east 1 north 0;");
        Due.fraction("39: the most", most, most.share(0), 6534, 6535);
        Due.fraction("39: one of them", most, most.share(1), 1, 6535);
    }

    /** LEGS that are STRUCK do not count, neither his nor all. */
    private static void shareStruck() {
        PacedMap map = mapOf("place a;place b;walker u;walker v;leg u a b east 1 north 0;leg v a b east 2 north 0;leg u a b east 3 north 0;");
        Due.fraction("39: ahead", map, map.share(0), 2, 3);
        map.strike(2);
        Due.fraction("39: his", map, map.share(0), 1, 3);
        map.strike(1);
        Due.fraction("39: the other's", map, map.share(0), 1, 1);
        Due.fraction("39: of the other one", map, map.share(1), 0, 1);
    }

    /** copyPlaces "(1 ..)". */
    private static void copyTrays() {
        Seen.Start all = map -> {
            Seen.rich(map);
            map.tray(0, 0, 8);
            map.tray(2, 3, 8);
            map.tray(3, 2, 60);
        };
        Seen.bounds("40: TRAY", all, (map, v) -> map.copyPlaces(v), 0, 3);
    }

    /** "2": MISSING. */
    private static void copyMissing() {
        Seen.refused("40: MISSING", Seen::rich, map -> map.copyPlaces(3), 2);
        Seen.refused("40: MISSING, without PLACES", map -> { }, map -> map.copyPlaces(0), 2);
    }

    /** "3: fewer than two for each": one less; as many; more. */
    private static void copyTooFew() {
        for (int m = 0; m < 8; m++) {
            int many = m;
            Seen.Start start = map -> {
                Seen.rich(map);
                map.tray(3, 1, many);
            };
            Seen.refused("40: " + many + " for four", start, map -> map.copyPlaces(3), 3);
        }
        Seen.Start seven = map -> {
            Due.town(map, STAR);
            map.tray(0, 2, 13);
            map.tray(1, 2, 14);
        };
        Seen.refused("40: 13 for seven", seven, map -> map.copyPlaces(0), 3);
        PacedMap map = Seen.begun(seven);
        Due.with("40: 14 for seven", map, map.copyPlaces(1), 7, 0);
        Due.with("40: the last east", map, map.read(1, 12), 6, 0);
        PacedMap one = mapOf("place a;");
        one.tray(0, 0, 1);
        Due.with("40: 1 for one", one, one.copyPlaces(0), -1, 3);
        one.tray(0, 0, 2);
        Due.with("40: 2 for one", one, one.copyPlaces(0), 1, 0);
    }

    /** "6: one LIES nowhere". */
    private static void copyNowhere() {
        for (int l = 0; l < 6; l++) {
            int leg = l;
            Seen.Start start = map -> {
                Due.town(map, STAR);
                map.tray(0, 2, 15);
                map.write(0, 0, 77);
                map.strike(leg);
            };
            Seen.refused("40: nowhere without LEG " + leg, start, map -> map.copyPlaces(0), 6);
        }
        Seen.Start settled = map -> {
            map.tray(0, 0, 60);
            map.settle();
            map.settle();
        };
        Seen.refused("40: settled, nowhere", settled, map -> map.copyPlaces(0), 6);
    }

    /** "(1; 2; 3 ..; 6 ..)": of two the first. */
    private static void copyOneAheadOfTheOther() {
        Seen.Start start = map -> {
            Due.town(map, STAR);
            map.strike(0);
            map.tray(0, 2, 13);
        };
        Seen.refused("40: 3 ahead of 6", start, map -> map.copyPlaces(0), 3);
        Seen.refused("40: 2 ahead of 6", start, map -> map.copyPlaces(1), 2);
        Seen.refused("40: 1 ahead of 6", start, map -> map.copyPlaces(4), 1);
    }

    /** "East, north of all PLACES come to a TRAY, one behind the other": what stands behind them stays. */
    private static void copyEastNorthOneBehindTheOther() {
        PacedMap map = mapOf("place a;place b;place c;walker u;leg u a b east 1 south 2;leg u b c west 4 north 7;");
        map.tray(0, 2, 8);
        for (int i = 0; i < 8; i++) {
            map.write(0, i, 50 + i);
        }
        Due.with("40: three", map, map.copyPlaces(0), 3, 0);
        long[] wants = {0, 0, 1, -2, -3, 5, 56, 57};
        for (int i = 0; i < 8; i++) {
            Due.with("40: number " + i, map, map.read(0, i), wants[i], 0);
        }
    }

    /** A number that "comes to a place of a TRAY" is "cut to its sort". */
    private static void copyCutToItsSort() {
        PacedMap map = mapOf("place a;place b;place c;walker u stride 3;leg u a b east 99 south 99;leg u b c east 43 south 43;");
        long[][] wants = {{297 - 256, -297 + 256, 426 - 512, -426 + 512}, {297, -297, 426, -426}};
        for (int sort = 0; sort < 4; sort++) {
            map.tray(sort, sort, 6);
            Due.with("40: to sort " + sort, map, map.copyPlaces(sort), 3, 0);
            for (int i = 0; i < 4; i++) {
                Due.with("40: to sort " + sort + ", " + i, map, map.read(sort, i + 2), wants[sort == 0 ? 0 : 1][i], 0);
            }
        }
    }

    /** Without PLACES none is wanted. */
    private static void copyOfNothing() {
        Seen.Start start = map -> map.tray(2, 1, 0);
        Seen.only("40: none", start, map -> map.copyPlaces(2), 0);
    }
}
