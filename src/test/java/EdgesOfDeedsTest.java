/** What is done (promises 19 to 26): each sentence that names a boundary has a test of its own, told above it. */
public final class EdgesOfDeedsTest {
    private static final String TWO = "place a;place b;walker u;";

    public static void main(String[] args) {
        paceNumbers();
        paceToItself();
        pacesToNinetyNine();
        paceAThirteenth();
        paceIsALegAsAnyOther();
        tellNumbers();
        tellPaces();
        tellStruckOrNot();
        strikeNumbers();
        strikeHowMany();
        strikeItIs();
        restoreNumbers();
        restoreHowMany();
        restoreItIsNot();
        believeNumbers();
        believeWhatItWas();
        settleToSeven();
        settleTheFirst();
        settleNoLegNoName();
        goNumbers();
        goEitherWay();
        goStruckOrAtNeitherEnd();
        goNowhere();
        goYards();
        ruleNumbers();
        Due.end("EdgesOfDeedsTest");
    }

    private static PacedMap mapOf(String town) {
        PacedMap map = new PacedMap();
        Due.with("town of " + town, map, Due.town(map, town) >= 0, true, 0);
        return map;
    }

    /** pace "(1 ..)": no such WALKER, no such PLACE, each of the two. */
    private static void paceNumbers() {
        Seen.bounds("19: WALKER", Seen::rich, (map, v) -> map.pace(v, 0, 1, 1, 1), 0, 2);
        Seen.bounds("19: PLACE", Seen::rich, (map, v) -> map.pace(0, v, 1, 1, 1), 0, 0);
        Seen.bounds("19: PLACE up to 3", Seen::rich, (map, v) -> map.pace(0, v, 1, 1, 1), 2, 3);
        Seen.bounds("19: other", Seen::rich, (map, v) -> map.pace(0, 0, v, 1, 1), 1, 3);
        Seen.refused("19: other -1", Seen::rich, map -> map.pace(0, 0, -1, 1, 1), 1);
        Seen.refused("19: PLACE -1", Seen::rich, map -> map.pace(0, -1, 0, 1, 1), 1);
        Seen.refused("19: without WALKERS", map -> Due.town(map, "place a;place b;"), map -> map.pace(0, 0, 1, 0, 0), 1);
        Seen.refused("19: without PLACES", map -> Due.town(map, "walker u;"), map -> map.pace(0, 0, 1, 0, 0), 1);
        Seen.refused("19: one PLACE", map -> Due.town(map, "place a;walker u;"), map -> map.pace(0, 0, 1, 0, 0), 1);
    }

    /** "one and itself where two must be". */
    private static void paceToItself() {
        for (int p = 0; p < 4; p++) {
            int place = p;
            Seen.refused("19: to itself " + p, Seen::rich, map -> map.pace(0, place, place, 1, 1), 1);
        }
    }

    /** "(told east, north: -99 to 99)". */
    private static void pacesToNinetyNine() {
        Seen.bounds("19: east", Seen::rich, (map, v) -> map.pace(0, 0, 1, v, 0), -99, 99);
        Seen.bounds("19: north", Seen::rich, (map, v) -> map.pace(0, 0, 1, 0, v), -99, 99);
        for (int paces : new int[] {-99, -1, 0, 1, 99}) {
            PacedMap map = mapOf(TWO);
            Due.with("19: told", map, map.pace(0, 1, 0, paces, -paces), 0, 0);
            Due.with("15: east", map, map.leg(0, 3), paces, 0);
            Due.with("15: north", map, map.leg(0, 4), -paces, 0);
        }
    }

    /** "its number (.. 4: a 13th)", behind 1. */
    private static void paceAThirteenth() {
        PacedMap map = mapOf(TWO);
        for (int leg = 0; leg < 12; leg++) {
            Due.with("19: LEG " + leg, map, map.pace(0, leg % 2, 1 - leg % 2, leg, -leg), leg, 0);
            Due.with("13: LEGS", map, map.told(2), leg + 1, 0);
        }
        for (int leg = 0; leg < 12; leg++) {
            Due.with("15: LEG " + leg + " stays", map, map.leg(leg, 3), leg, 0);
        }
        Seen.refused("19: a 13th", Seen::full, m -> m.pace(0, 0, 1, 0, 0), 4);
        Seen.refused("19: 1 ahead of 4: WALKER", Seen::full, m -> m.pace(4, 0, 1, 0, 0), 1);
        Seen.refused("19: 1 ahead of 4: PLACE", Seen::full, m -> m.pace(0, 7, 1, 0, 0), 1);
        Seen.refused("19: 1 ahead of 4: other", Seen::full, m -> m.pace(0, 0, -1, 0, 0), 1);
        Seen.refused("19: 1 ahead of 4: itself", Seen::full, m -> m.pace(0, 1, 1, 0, 0), 1);
        Seen.refused("19: 1 ahead of 4: east", Seen::full, m -> m.pace(0, 0, 1, 100, 0), 1);
        Seen.refused("19: 1 ahead of 4: north", Seen::full, m -> m.pace(0, 0, 1, 0, -100), 1);
        Seen.Start struck = m -> {
            Seen.full(m);
            m.strike(0);
        };
        Seen.refused("19: a 13th with one STRUCK", struck, m -> m.pace(0, 0, 1, 0, 0), 4);
        Seen.Start eleven = m -> Due.town(m, TWO + "leg u a b east 1 north 0;".repeat(11));
        PacedMap last = Seen.begun(eleven);
        Due.with("19: the 12th", last, last.pace(0, 0, 1, 0, 0), 11, 0);
        Due.with("19: behind the 12th", last, last.pace(0, 0, 1, 0, 0), -1, 4);
    }

    /** "A LEG more": it lays, it is not STRUCK, its WALKER told it. */
    private static void paceIsALegAsAnyOther() {
        PacedMap map = mapOf("place a;place b;walker u;walker v turned 1;");
        map.pace(1, 0, 1, 3, 5);
        long[] wants = {1, 0, 1, 3, 5, 5, -3, 0};
        for (int what = 0; what < 8; what++) {
            Due.with("19: told, " + what, map, map.leg(0, what), wants[what], 0);
        }
        Due.with("19: he told it", map, map.walker(1, 4), 1, 0);
        Due.with("19: it lays", map, map.place(1, 0), 5, 0);
        Due.with("19: not STRUCK", map, map.told(7), 0, 0);
        Due.with("19: one goes along", map, map.go(0), 1, 0);
        map.strike(0);
        Due.with("19: one more", map, map.pace(0, 1, 0, 0, 0), 1, 0);
        Due.with("19: the one ahead is STRUCK alone", map, map.told(7), 1, 0);
        PacedMap again = mapOf(TWO + "leg u a b east 9 north 9;".repeat(12));
        for (int leg = 0; leg < 12; leg++) {
            again.strike(leg);
        }
        Due.town(again, TWO);
        again.pace(0, 0, 1, 1, 1);
        Due.with("19: in a new TOWN it is not STRUCK", again, again.told(7), 0, 0);
    }

    /** tell "(1)": no such LEG. */
    private static void tellNumbers() {
        Seen.bounds("20: LEG", Seen::rich, (map, v) -> map.tell(v, 1, 1), 0, 4);
        Seen.bounds("20: LEG of twelve", Seen::full, (map, v) -> map.tell(v, 1, 1), 0, 11);
        Seen.refused("20: without LEGS", map -> Due.town(map, TWO), map -> map.tell(0, 0, 0), 1);
    }

    /** "(-99 to 99)". */
    private static void tellPaces() {
        Seen.bounds("20: east", Seen::rich, (map, v) -> map.tell(1, v, 0), -99, 99);
        Seen.bounds("20: north", Seen::rich, (map, v) -> map.tell(1, 0, v), -99, 99);
        for (int paces : new int[] {-99, -1, 0, 1, 99}) {
            PacedMap map = mapOf(TWO + "leg u a b east 5 north 6;");
            Due.with("20: told anew", map, map.tell(0, paces, -paces), true, 0);
            Due.with("15: east", map, map.leg(0, 3), paces, 0);
            Due.with("15: north", map, map.leg(0, 4), -paces, 0);
            Due.with("16: where b LIES", map, map.place(1, 1), -paces, 0);
        }
    }

    /** "A LEG, STRUCK or not, is told anew": nothing else of it. */
    private static void tellStruckOrNot() {
        PacedMap map = mapOf(Seen.TOWN);
        map.strike(2);
        Due.with("20: STRUCK", map, map.tell(2, 7, -8), true, 0);
        long[] wants = {2, 2, 0, 7, -8, -14, -16};
        for (int what = 0; what < 7; what++) {
            Due.with("20: STRUCK, " + what, map, map.leg(2, what), wants[what], 0);
        }
        Due.with("20: still STRUCK", map, map.told(7), 4, 0);
        Due.with("20: not STRUCK", map, map.tell(0, 1, 1), true, 0);
        Due.with("20: still not", map, map.told(7), 4, 0);
        Due.with("20: the others stay", map, map.leg(1, 3), -6, 0);
    }

    /** strike "(1 ..)". */
    private static void strikeNumbers() {
        Seen.bounds("21: LEG", map -> Due.town(map, Seen.TOWN), (map, v) -> map.strike(v), 0, 4);
        Seen.Start twelve = map -> Due.town(map, TWO + "leg u a b east 1 north 0;".repeat(12));
        Seen.bounds("21: LEG of twelve", twelve, (map, v) -> map.strike(v), 0, 11);
        Seen.refused("21: without LEGS", map -> Due.town(map, TWO), map -> map.strike(0), 1);
        Seen.refused("21: 32", Seen::rich, map -> map.strike(32), 1);
    }

    /** "how many are STRUCK then": one to twelve. */
    private static void strikeHowMany() {
        PacedMap map = mapOf(TWO + "leg u a b east 1 north 0;".repeat(12));
        for (int leg = 11; leg >= 0; leg--) {
            Due.with("21: STRIKE " + leg, map, map.strike(leg), 12 - leg, 0);
        }
        Due.with("21: all", map, map.told(7), 4095, 0);
        Due.with("18: not joined", map, map.joined(0, 1), 0, 0);
    }

    /** "7: it is". */
    private static void strikeItIs() {
        Seen.refused("21: it is", Seen::rich, map -> map.strike(4), 7);
        Seen.Start struck = map -> {
            Due.town(map, Seen.TOWN);
            map.strike(0);
        };
        Seen.refused("21: LEG 0 is", struck, map -> map.strike(0), 7);
    }

    /** restore "(1 ..)". */
    private static void restoreNumbers() {
        Seen.Start struck = map -> {
            Due.town(map, TWO + "leg u a b east 1 north 0;".repeat(12));
            for (int leg = 0; leg < 12; leg++) {
                map.strike(leg);
            }
        };
        Seen.bounds("22: LEG", struck, (map, v) -> map.restore(v), 0, 11);
        Seen.refused("22: without LEGS", map -> Due.town(map, TWO), map -> map.restore(0), 1);
        Seen.refused("22: 5 of five", Seen::rich, map -> map.restore(5), 1);
        Seen.refused("22: 36", Seen::rich, map -> map.restore(36), 1);
    }

    /** "how many are STRUCK then": eleven to none. */
    private static void restoreHowMany() {
        PacedMap map = mapOf(TWO + "leg u a b east 1 north 0;".repeat(12));
        for (int leg = 0; leg < 12; leg++) {
            map.strike(leg);
        }
        for (int leg = 0; leg < 12; leg++) {
            Due.with("22: RESTORE " + leg, map, map.restore(leg), 11 - leg, 0);
        }
        Due.with("22: none", map, map.told(7), 0, 0);
        Due.with("18: joined", map, map.joined(0, 1), 1, 0);
    }

    /** "7: it is not". */
    private static void restoreItIsNot() {
        Seen.refused("22: it is not", Seen::rich, map -> map.restore(0), 7);
        Seen.refused("22: none is", map -> Due.town(map, Seen.TOWN), map -> map.restore(4), 7);
        PacedMap map = mapOf(Seen.TOWN);
        map.strike(3);
        map.restore(3);
        Due.with("22: no more", map, map.restore(3), -1, 7);
        Due.with("22: STRUCK once more", map, map.strike(3), 1, 0);
    }

    /** believe "(1)": WALKER, "a FAULT (0 to 23)". */
    private static void believeNumbers() {
        Seen.bounds("23: WALKER", Seen::rich, (map, v) -> map.believe(v, 5), 0, 2);
        Seen.bounds("23: WALKER of four", Seen::full, (map, v) -> map.believe(v, 5), 0, 3);
        Seen.bounds("23: FAULT", Seen::rich, (map, v) -> map.believe(1, v), 0, 23);
        Seen.refused("23: without WALKERS", map -> Due.town(map, "place a;"), map -> map.believe(0, 0), 1);
    }

    /** "what it was": of each FAULT, the same one, too; the others' stay. */
    private static void believeWhatItWas() {
        PacedMap map = mapOf("walker u;walker v stride 3;");
        int was = 0;
        for (int fault = 23; fault >= 0; fault--) {
            Due.with("23: to " + fault, map, map.believe(0, fault), was, 0);
            Due.with("23: the same", map, map.believe(0, fault), fault, 0);
            was = fault;
        }
        Due.with("23: the other one stays", map, map.walker(1, 3), 16, 0);
        Seen.only("23: what he has changes nothing", Seen::rich, m -> m.believe(2, 12), 12);
    }

    /** "A PLACE more ..: its number (4: an eighth)". */
    private static void settleToSeven() {
        PacedMap map = new PacedMap();
        for (int place = 0; place < 7; place++) {
            Due.with("24: PLACE " + place, map, map.settle(), place, 0);
            Due.with("13: PLACES", map, map.told(0), place + 1, 0);
        }
        Due.with("24: an eighth", map, map.settle(), -1, 4);
        Seen.refused("24: an eighth behind seven told", Seen::full, m -> m.settle(), 4);
    }

    /** "if it is the first one, one stands there": not if it is another one. */
    private static void settleTheFirst() {
        PacedMap map = mapOf("walker u;");
        Due.with("24: nowhere ahead", map, map.told(4), -1, 6);
        map.settle();
        Due.with("24: at the first one", map, map.told(4), 0, 0);
        Due.with("24: which LIES", map, map.place(0, 0), 0, 0);
        map.settle();
        Due.with("24: not at the second one", map, map.told(4), 0, 0);
        map.pace(0, 0, 1, 1, 0);
        map.go(0);
        map.settle();
        Due.with("24: where one stood", map, map.told(4), 1, 0);
        Due.with("24: YARDS gone stay", map, map.told(5), 1, 0);
    }

    /** "no LEG yet": and no NAME. */
    private static void settleNoLegNoName() {
        PacedMap alone = new PacedMap();
        alone.settle();
        for (char name = 'a'; name <= 'z'; name++) {
            Due.with("24: alone, no NAME " + name, alone, Due.days(alone, "when at " + name + ";end;"), -1, 9);
            Due.is("24: alone, no such " + name, alone.fault(0), 3);
        }
        PacedMap map = mapOf(Seen.TOWN);
        Due.with("24: its number", map, map.settle(), 4, 0);
        Due.with("24: nowhere", map, map.place(4, 0), -1, 6);
        for (int place = 0; place < 4; place++) {
            Due.with("24: joined with none", map, map.joined(place, 4), 0, 0);
        }
        Due.with("24: no LEG more", map, map.told(2), 5, 0);
        Due.with("24: a LEG to it", map, map.pace(0, 4, 0, 1, 0), 5, 0);
        Due.with("24: it LIES", map, map.place(4, 0), -1, 0);
        for (char name = 'e'; name <= 'z'; name++) {
            if (name < 'u' || name > 'w') {
                Due.with("24: no NAME " + name, map, Due.days(map, "when at " + name + ";end;"), -1, 9);
            }
        }
    }

    /** go "(1 ..)". */
    private static void goNumbers() {
        Seen.Start star = map -> Due.town(map, TWO + "leg u a b east 1 north 0;".repeat(12));
        Seen.bounds("25: LEG", star, (map, v) -> map.go(v), 0, 11);
        for (int leg : new int[] {-1, 5, 12, Integer.MAX_VALUE, Integer.MIN_VALUE}) {
            Seen.refused("25: " + leg + " of five", Seen::rich, map -> map.go(leg), 1);
        }
        Seen.refused("25: without LEGS", map -> Due.town(map, TWO), map -> map.go(0), 1);
    }

    /** "where one stands then": from its beginning, from its end. */
    private static void goEitherWay() {
        PacedMap map = mapOf(TWO + "leg u b a east 1 north 0;");
        Due.with("25: to its beginning", map, map.go(0), 1, 0);
        Due.with("13: there", map, map.told(4), 1, 0);
        Due.with("25: to its end", map, map.go(0), 0, 0);
        Due.with("13: back", map, map.told(4), 0, 0);
    }

    /** "7: it is STRUCK, one stands at neither end". */
    private static void goStruckOrAtNeitherEnd() {
        Seen.Start start = map -> Due.town(map, Seen.TOWN);
        Seen.refused("25: at neither end", start, map -> map.go(1), 7);
        Seen.refused("25: at neither end of LEG 4", start, map -> map.go(4), 7);
        Seen.Start struck = map -> {
            Due.town(map, Seen.TOWN);
            map.strike(0);
            map.strike(1);
        };
        Seen.refused("25: STRUCK", struck, map -> map.go(0), 7);
        Seen.refused("25: both", struck, map -> map.go(1), 7);
        PacedMap map = Seen.begun(struck);
        map.restore(0);
        Due.with("25: RESTORED", map, map.go(0), 1, 0);
    }

    /** One stands nowhere only without PLACES, so without LEGS: 1. */
    private static void goNowhere() {
        Seen.refused("25: nowhere", map -> map.tray(0, 0, 0), map -> map.go(0), 1);
    }

    /** "as many YARDS more as it has east and north, without sign, together": by what is RIGHT. */
    private static void goYards() {
        PacedMap map = mapOf(TWO + "leg u a b west 3 south 4;leg u a b east 0 north 0;");
        for (int fault = 0; fault < 24; fault++) {
            map.believe(0, fault);
            int ahead = map.told(5);
            map.go(0);
            Due.with("25: YARDS by " + fault, map, map.told(5), ahead + 7 * (1 + fault / 8), 0);
        }
        int ahead = map.told(5);
        Due.with("25: along none", map, map.go(1), 1, 0);
        Due.with("25: no YARDS more", map, map.told(5), ahead, 0);
    }

    /** rule: "ODDS from now on (0 to 16) (1)". */
    private static void ruleNumbers() {
        Seen.bounds("26: ODDS", Seen::rich, (map, v) -> map.rule(v), 0, 16);
        PacedMap map = new PacedMap();
        for (int odds = 16; odds >= 0; odds--) {
            Due.with("26: " + odds, map, map.rule(odds), true, 0);
            Due.with("13: ODDS", map, map.told(3), odds, 0);
        }
    }
}
