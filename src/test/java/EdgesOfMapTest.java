/**
 * What is RIGHT, where all LIES (promises 13 to 18): each sentence that names a boundary has a test of its own, told
 * above it.
 */
public final class EdgesOfMapTest {
    private static final String SEVEN = "place a;place b;place c;place d;place e;place f;place g;";
    /** Places a, b, c lie; d and e are joined with one another alone. */
    private static final String APART = "place a;place b;place c;place d;place e;walker u;"
        + "leg u a b east 1 north 0;leg u b c east 0 north 2;leg u d e east 3 north 0;leg u e d west 3 north 1;";

    public static void main(String[] args) {
        toldWhats();
        toldHowMany();
        whereOneStands();
        yardsGone();
        setOfPlacesThatLie();
        setOfLegsStruck();
        setOfLegsThatMiss();
        setOfBridges();
        rings();
        closed();
        closedOfPlacesNowhere();
        closedByTheNorthAlone();
        walkerNumbers();
        setOfLegsHeTold();
        legNumbers();
        legStruckIsTold();
        legMissesByHowMuch();
        legMissesStruckOrNowhere();
        legStatusTellsNone();
        rightOfEachFault();
        rightAtTheEdges();
        liesPlaceZero();
        liesOneAfterTheOther();
        liesByTheFirstLeg();
        liesEitherWay();
        placeNumbers();
        placeNowhere();
        placeStatusTellsNone();
        apartNumbers();
        apartNowhereAndItself();
        apartBothSigns();
        joinedNumbers();
        joinedOrOne();
        struckLegsDoNotCount();
        nothingChanges();
        Due.end("EdgesOfMapTest");
    }

    private static PacedMap mapOf(String town) {
        PacedMap map = new PacedMap();
        Due.with("town of " + town, map, Due.town(map, town) >= 0, true, 0);
        return map;
    }

    /** told: what 0 to 11 "(1; 6)". */
    private static void toldWhats() {
        Seen.bounds("13: told", Seen::rich, PacedMap::told, 0, 11);
        for (int w = 0; w < 12; w++) {
            int what = w;
            PacedMap map = Seen.begun(Seen::rich);
            Due.with("13: told(" + what + ")", map, map.told(what) >= 0, true, 0);
        }
    }

    /** "How many PLACES (what 0), WALKERS (1), LEGS, those that are STRUCK, too (2); ODDS (3)": none, and as many as there can be. */
    private static void toldHowMany() {
        PacedMap map = new PacedMap();
        long[] none = {0, 0, 0, 2};
        for (int what = 0; what < 4; what++) {
            Due.with("13: none, " + what, map, map.told(what), none[what], 0);
        }
        PacedMap full = Seen.begun(Seen::full);
        full.rule(16);
        for (int leg = 0; leg < 12; leg++) {
            full.strike(leg);
        }
        long[] most = {7, 4, 12, 16};
        for (int what = 0; what < 4; what++) {
            Due.with("13: full, " + what, full, full.told(what), most[what], 0);
        }
    }

    /** "where one stands (4; 6: nowhere)". */
    private static void whereOneStands() {
        Seen.refused("13: nowhere", map -> map.tray(0, 0, 1), map -> map.told(4), 6);
        Seen.refused("13: nowhere with a walker", map -> Due.town(map, "walker u;"), map -> map.told(4), 6);
        PacedMap map = mapOf(SEVEN + "walker u;leg u a g east 1 north 0;");
        Due.with("13: at 0", map, map.told(4), 0, 0);
        map.go(0);
        Due.with("13: at 6", map, map.told(4), 6, 0);
        map.strike(0);
        Due.with("13: where it LIES nowhere, too", map, map.told(4), 6, 0);
    }

    /** "YARDS gone (5)": none; more each time. */
    private static void yardsGone() {
        PacedMap map = mapOf("place a;place b;walker u stride 3;leg u a b west 99 south 99;");
        Due.with("13: none gone", map, map.told(5), 0, 0);
        for (int times = 1; times <= 40; times++) {
            map.go(0);
            Due.with("13: gone " + times, map, map.told(5), 594 * times, 0);
        }
        map.believe(0, 0);
        Due.with("13: what was gone stays", map, map.told(5), 594 * 40, 0);
        map.tell(0, 0, 0);
        map.go(0);
        Due.with("13: none more", map, map.told(5), 594 * 40, 0);
    }

    /** "the sets of PLACES that LIE somewhere (1 for PLACE 0 ..) (6)": none, one, all, some. */
    private static void setOfPlacesThatLie() {
        Due.is("13: none LIES", new PacedMap().told(6), 0);
        Due.is("13: one", mapOf("place a;").told(6), 1);
        Due.is("13: one of seven", mapOf(SEVEN).told(6), 1);
        Due.is("13: the last of seven", mapOf(SEVEN + "walker u;leg u g a east 0 north 0;").told(6), 65);
        PacedMap map = mapOf(SEVEN + "walker u;leg u g f east 1 north 0;leg u f e east 1 north 0;leg u e d east 1 north 0;"
            + "leg u d c east 1 north 0;leg u c b east 1 north 0;leg u b a east 1 north 0;");
        Due.is("13: all seven", map.told(6), 127);
        map.strike(2);
        Due.is("13: the first four", map.told(6), 15);
    }

    /** "of LEGS that are STRUCK (1 for LEG 0 ..) (7)": none, one, all. */
    private static void setOfLegsStruck() {
        PacedMap map = mapOf("place a;place b;walker u;" + "leg u a b east 1 north 1;".repeat(12));
        Due.is("13: none STRUCK", map.told(7), 0);
        int set = 0;
        for (int leg = 11; leg >= 0; leg--) {
            map.strike(leg);
            set |= 1 << leg;
            Due.is("13: STRUCK to " + leg, map.told(7), set);
        }
        Due.is("13: all", set, 4095);
    }

    /** "that MISS by 1 and more (8)": by 0 not; to the east or to the north, above or below. */
    private static void setOfLegsThatMiss() {
        PacedMap map = mapOf("place a;place b;walker u;leg u a b east 5 north 5;leg u a b east 5 north 5;"
            + "leg u a b east 4 north 5;leg u a b east 6 north 5;leg u a b east 5 north 4;leg u a b east 5 north 6;leg u b a west 5 south 5;");
        Due.is("13: MISS", map.told(8), 4 + 8 + 16 + 32);
        map.strike(0);
        Due.is("13: MISS without the first", map.told(8), 4 + 8 + 16 + 32);
        map.strike(1);
        Due.is("13: now leg 2 lays it", map.told(8), 8 + 16 + 32 + 64);
        Due.is("13: those nowhere do not MISS", mapOf(APART).told(8), 0);
        Due.is("13: none of none", new PacedMap().told(8), 0);
    }

    /** "BRIDGE: a LEG without which two PLACES that are joined by LEGS are not": none, one, all; LEGS beside one another are none. */
    private static void setOfBridges() {
        Due.is("13: none of none", new PacedMap().told(9), 0);
        Due.is("13: one", mapOf("place a;place b;walker u;leg u a b east 0 north 0;").told(9), 1);
        PacedMap two = mapOf("place a;place b;walker u;leg u a b east 0 north 0;leg u b a east 9 north 9;");
        Due.is("13: two beside one another", two.told(9), 0);
        two.strike(0);
        Due.is("13: one of them left", two.told(9), 2);
        PacedMap row = mapOf(SEVEN + "walker u;leg u a b east 1 north 0;leg u b c east 1 north 0;leg u c d east 1 north 0;"
            + "leg u d e east 1 north 0;leg u e f east 1 north 0;leg u f g east 1 north 0;");
        Due.is("13: all six of a row", row.told(9), 63);
        row.strike(2);
        Due.is("13: one that is STRUCK is none", row.told(9), 63 - 4);
        row.restore(2);
        row.pace(0, 6, 0, 0, 0);
        Due.is("13: none of a ring", row.told(9), 0);
        row.strike(6);
        row.pace(0, 2, 4, 0, 0);
        Due.is("13: those outside the ring", row.told(9), 63 - 4 - 8);
        Due.is("13: of PLACES that LIE nowhere, too", mapOf("place a;place b;place c;walker u;leg u b c east 1 north 0;").told(9), 1);
        PacedMap nowhere = mapOf(APART);
        Due.is("13: a row and a ring nowhere", nowhere.told(9), 3);
    }

    /** "RINGS: LEGS less PLACES and the number of parts in which PLACES are joined, together": none to 11. */
    private static void rings() {
        Due.is("13: no RINGS of none", new PacedMap().told(10), 0);
        Due.is("13: no RINGS of seven", mapOf(SEVEN).told(10), 0);
        PacedMap map = mapOf("place a;place b;walker u;");
        Due.is("13: no RINGS of two", map.told(10), 0);
        for (int legs = 1; legs <= 12; legs++) {
            map.pace(0, 0, 1, legs, 0);
            Due.with("13: RINGS of " + legs, map, map.told(10), legs - 1, 0);
        }
        for (int leg = 0; leg < 12; leg++) {
            map.strike(leg);
            Due.with("13: RINGS less " + leg, map, map.told(10), Math.max(0, 10 - leg), 0);
        }
        PacedMap apart = mapOf(APART);
        Due.is("13: of PLACES nowhere, too", apart.told(10), 1);
        apart.settle();
        Due.is("13: a PLACE more is a part more", apart.told(10), 1);
    }

    /** "1 if it is CLOSED, else 0 (11)": of nothing; by 0; by 1. */
    private static void closed() {
        Due.is("13: nothing is CLOSED", new PacedMap().told(11), 1);
        Due.is("13: without LEGS", mapOf(SEVEN).told(11), 1);
        PacedMap map = mapOf("place a;place b;place c;walker u;leg u a b east 99 north 99;leg u b c west 99 north 1;leg u a c east 0 south 99;");
        Due.is("13: not", map.told(11), 0);
        map.tell(1, -99, -99);
        Due.is("13: by 99 not", map.told(11), 0);
        map.tell(2, 0, 0);
        Due.is("13: CLOSED", map.told(11), 1);
        map.tell(2, 1, 0);
        Due.is("13: by 1 east not", map.told(11), 0);
        map.tell(2, 0, -1);
        Due.is("13: by 1 south not", map.told(11), 0);
        map.strike(0);
        Due.is("13: without a ring", map.told(11), 1);
    }

    /** "(gone either way) .. those of PLACES that do not LIE anywhere, too". */
    private static void closedOfPlacesNowhere() {
        PacedMap map = mapOf(APART);
        Due.is("13: d to e and back by 1", map.told(11), 0);
        map.tell(3, -3, 0);
        Due.is("13: d to e and back", map.told(11), 1);
        map.pace(0, 3, 4, 4, 0);
        Due.is("13: a second one beside it", map.told(11), 0);
        map.tell(4, 3, 0);
        Due.is("13: the same way", map.told(11), 1);
        PacedMap last = mapOf(SEVEN + "walker u;leg u e f east 1 north 0;leg u f g east 1 north 0;leg u e g east 1 north 0;");
        Due.is("13: of the last three", last.told(11), 0);
        last.tell(2, 2, 0);
        Due.is("13: of the last three, CLOSED", last.told(11), 1);
    }

    /** "make 0 east, 0 north together": each by itself, not the one for the other one. */
    private static void closedByTheNorthAlone() {
        PacedMap map = mapOf("place a;place b;walker u;leg u a b east 1 north 0;leg u b a east 0 south 1;");
        Due.is("13: 1 east, 1 south", map.told(11), 0);
        map.tell(1, -1, 0);
        Due.is("13: 0, 0", map.told(11), 1);
        map.tell(0, 1, 1);
        Due.is("13: 1 north", map.told(11), 0);
    }

    /** walker: "no such .. WALKER", "a number that can't be": none, one, four; what 0 to 4. */
    private static void walkerNumbers() {
        Seen.bounds("14: WALKER", Seen::rich, (map, v) -> map.walker(v, 0), 0, 2);
        Seen.bounds("14: WALKER of four", Seen::full, (map, v) -> map.walker(v, 3), 0, 3);
        Seen.bounds("14: what", Seen::rich, (map, v) -> map.walker(1, v), 0, 4);
        for (int w = 0; w < 5; w++) {
            int what = w;
            Seen.refused("14: without WALKERS", map -> Due.town(map, SEVEN), map -> map.walker(0, what), 1);
        }
    }

    /** "4: the set of LEGS he told, STRUCK or not (1 for LEG 0 ..)": none, all. */
    private static void setOfLegsHeTold() {
        PacedMap map = mapOf("place a;place b;walker u;walker v;" + "leg u a b east 1 north 1;".repeat(12));
        Due.is("14: all", map.walker(0, 4), 4095);
        Due.is("14: none", map.walker(1, 4), 0);
        for (int leg = 0; leg < 12; leg++) {
            map.strike(leg);
        }
        Due.is("14: STRUCK or not", map.walker(0, 4), 4095);
        PacedMap some = mapOf(Seen.TOWN);
        Due.is("14: u", some.walker(0, 4), 9);
        Due.is("14: v", some.walker(1, 4), 18);
        Due.is("14: w", some.walker(2, 4), 4);
    }

    /** leg: none, five, twelve LEGS; what 0 to 7. */
    private static void legNumbers() {
        Seen.bounds("15: LEG", Seen::rich, (map, v) -> map.leg(v, 0), 0, 4);
        Seen.bounds("15: LEG of twelve", Seen::full, (map, v) -> map.leg(v, 5), 0, 11);
        Seen.bounds("15: what", Seen::rich, (map, v) -> map.leg(0, v), 0, 7);
        for (int w = 0; w < 8; w++) {
            int what = w;
            Seen.refused("15: without LEGS", map -> Due.town(map, "place a;place b;walker u;"), map -> map.leg(0, what), 1);
        }
    }

    /** "Of a LEG, STRUCK or not": 0 to 6 are told as ahead, only 7 is not. */
    private static void legStruckIsTold() {
        PacedMap map = mapOf(Seen.TOWN);
        long[] wants = {2, 2, 0, 2, -3, -4, -6};
        map.strike(2);
        for (int what = 0; what < 7; what++) {
            Due.with("15: STRUCK, " + what, map, map.leg(2, what), wants[what], 0);
        }
        Due.with("15: STRUCK, 7", map, map.leg(2, 7), -1, 6);
        map.believe(2, 0);
        Due.with("15: STRUCK, by what is BELIEVED", map, map.leg(2, 5), 2, 0);
    }

    /** "MISSES by the YARDS east and those north by which what is RIGHT is other .., both without sign, together". */
    private static void legMissesByHowMuch() {
        PacedMap map = mapOf("place a;place b;walker u;walker v stride 3;leg u a b east 0 north 0;leg v b a east 99 north 99;");
        Due.with("15: by none", map, map.leg(0, 7), 0, 0);
        Due.with("15: by 594", map, map.leg(1, 7), 594, 0);
        int[][] tells = {{0, 0, 0}, {1, 0, 3}, {-1, 0, 3}, {0, 1, 3}, {0, -1, 3}, {2, -2, 12}, {-99, 99, 594}, {-99, -99, 594}};
        for (int[] t : tells) {
            map.tell(1, t[0], t[1]);
            Due.with("15: by " + t[2], map, map.leg(1, 7), t[2], 0);
        }
        map.believe(0, 16);
        map.tell(0, 99, 99);
        map.tell(1, 99, 99);
        Due.with("15: the most, back where it should go on", map, map.leg(1, 7), 1188, 0);
    }

    /** "(6: it is STRUCK, an end does not LIE)". */
    private static void legMissesStruckOrNowhere() {
        Seen.refused("15: STRUCK", Seen::rich, map -> map.leg(4, 7), 6);
        Seen.refused("15: nowhere", map -> Due.town(map, APART), map -> map.leg(2, 7), 6);
        Seen.Start struck = map -> {
            Due.town(map, APART);
            map.strike(0);
        };
        Seen.refused("15: both ends nowhere by a LEG that is STRUCK", struck, map -> map.leg(1, 7), 6);
        PacedMap map = Seen.begun(struck);
        Due.with("15: it is told, though", map, map.leg(1, 6), 2, 0);
        map.restore(0);
        Due.with("15: somewhere again", map, map.leg(1, 7), 0, 0);
    }

    /** "Where a number may be below 0 (leg(), place()), STATUS tells NONE from -1." */
    private static void legStatusTellsNone() {
        PacedMap map = mapOf("place a;place b;walker u;leg u a b west 1 south 1;");
        for (int what = 3; what < 7; what++) {
            Due.with("15: -1, " + what, map, map.leg(0, what), -1, 0);
            Due.with("15: NONE, " + what, map, map.leg(1, what), -1, 1);
        }
    }

    /** "FAULT f (0 to 23)", "RIGHT is ..": LEFT first, then TURNED, then STRIDE; all 24, and both signs. */
    private static void rightOfEachFault() {
        PacedMap map = mapOf("place a;place b;walker u;leg u a b east 3 north 5;leg u a b west 7 south 11;");
        for (int fault = 0; fault < 24; fault++) {
            map.believe(0, fault);
            Due.with("14: TURNED of " + fault, map, map.walker(0, 0), fault & 3, 0);
            Due.with("14: LEFT of " + fault, map, map.walker(0, 1), fault >> 2 & 1, 0);
            Due.with("14: STRIDE of " + fault, map, map.walker(0, 2), 1 + (fault >> 3), 0);
            Due.with("14: FAULT " + fault, map, map.walker(0, 3), fault, 0);
            int[][] told = {{3, 5}, {-7, -11}};
            for (int leg = 0; leg < 2; leg++) {
                int e = (fault & 4) != 0 ? -told[leg][0] : told[leg][0];
                int n = told[leg][1];
                for (int quarter = 0; quarter < (fault & 3); quarter++) {
                    int east = n;
                    n = -e;
                    e = east;
                }
                Due.is("15: east by " + fault, map.leg(leg, 5), e * (1 + (fault >> 3)));
                Due.is("15: north by " + fault, map.leg(leg, 6), n * (1 + (fault >> 3)));
            }
        }
    }

    /** The most YARDS: 99 paces by STRIDE 3; seven PLACES in a row of them. */
    private static void rightAtTheEdges() {
        PacedMap map = mapOf(SEVEN + "walker u stride 3;leg u a b east 99 south 99;leg u b c east 99 south 99;"
            + "leg u c d east 99 south 99;leg u d e east 99 south 99;leg u e f east 99 south 99;leg u f g east 99 south 99;");
        Due.is("15: 297", map.leg(5, 5), 297);
        Due.is("15: -297", map.leg(5, 6), -297);
        for (int place = 0; place < 7; place++) {
            Due.with("16: east of " + place, map, map.place(place, 0), 297 * place, 0);
            Due.with("16: north of " + place, map, map.place(place, 1), -297 * place, 0);
        }
        Due.is("17: 3564", map.apart(0, 6), 3564);
        Due.is("33: 3564", map.way(0, 6), 3564);
    }

    /** "PLACE 0 LIES at 0 east, 0 north." With nothing, with one, whatever LEGS tell. */
    private static void liesPlaceZero() {
        for (String town : new String[] {"place a;", SEVEN, Seen.TOWN, APART}) {
            PacedMap map = mapOf(town);
            Due.with("16: 0 east", map, map.place(0, 0), 0, 0);
            Due.with("16: 0 north", map, map.place(0, 1), 0, 0);
        }
    }

    /** "again and again the first LEG, by numbers, of which one end LIES somewhere and the other one does not": the first each time. */
    private static void liesOneAfterTheOther() {
        // c is laid by leg 2; then leg 0 is the first that can be, ahead of leg 1 that could be at first.
        PacedMap map = mapOf("place a;place b;place c;place d;walker u;leg u c b east 1 north 0;leg u d b east 9 north 9;"
            + "leg u a c east 5 north 0;leg u a d east 2 north 2;leg u a b east 7 north 7;");
        Due.with("16: b by leg 0", map, map.place(1, 0), 6, 0);
        Due.with("16: b north", map, map.place(1, 1), 0, 0);
        Due.with("16: d by leg 1, not by leg 3", map, map.place(3, 0), -3, 0);
        Due.with("16: d north", map, map.place(3, 1), -9, 0);
        Due.is("15: so leg 3 misses", map.leg(3, 7), 5 + 11);
        Due.is("15: so leg 4 misses", map.leg(4, 7), 1 + 7);
        Due.is("13: those that MISS", map.told(8), 24);
    }

    /** "the first LEG": of two beside one another the first one lays, the other one MISSES. */
    private static void liesByTheFirstLeg() {
        PacedMap map = mapOf("place a;place b;walker u;leg u a b east 1 north 0;leg u a b east 2 north 0;");
        Due.with("16: by leg 0", map, map.place(1, 0), 1, 0);
        Due.with("15: leg 0 does not MISS", map, map.leg(0, 7), 0, 0);
        Due.with("15: leg 1 MISSES by 1", map, map.leg(1, 7), 1, 0);
        map.strike(0);
        Due.with("16: by leg 1", map, map.place(1, 0), 2, 0);
        map.restore(0);
        Due.with("16: by leg 0 again", map, map.place(1, 0), 1, 0);
    }

    /** "lays the other one": from its beginning or from its end. */
    private static void liesEitherWay() {
        PacedMap map = mapOf("place a;place b;place c;walker u;leg u b a east 3 north 4;leg u c b west 1 south 2;");
        Due.with("16: b west", map, map.place(1, 0), -3, 0);
        Due.with("16: b south", map, map.place(1, 1), -4, 0);
        Due.with("16: c", map, map.place(2, 0), -2, 0);
        Due.with("16: c south", map, map.place(2, 1), -2, 0);
    }

    /** place: none, four, seven PLACES; what 0, 1. */
    private static void placeNumbers() {
        Seen.bounds("16: PLACE", Seen::rich, (map, v) -> map.place(v, 0), 0, 3);
        Seen.Start all = map -> {
            Seen.full(map);
            for (int place = 1; place < 7; place++) {
                map.strike(place);
            }
        };
        PacedMap map = Seen.begun(all);
        Due.with("16: PLACE 6 is there", map, map.place(6, 0), -1, 6);
        Seen.refused("16: PLACE 7", all, m -> m.place(7, 0), 1);
        Seen.bounds("16: what", Seen::rich, (m, v) -> m.place(1, v), 0, 1);
        Seen.refused("16: without PLACES", m -> Due.town(m, "walker u;"), m -> m.place(0, 0), 1);
    }

    /** "(.. 6: nowhere)". */
    private static void placeNowhere() {
        for (int p = 3; p < 5; p++) {
            int place = p;
            Seen.refused("16: nowhere east", map -> Due.town(map, APART), map -> map.place(place, 0), 6);
            Seen.refused("16: nowhere north", map -> Due.town(map, APART), map -> map.place(place, 1), 6);
        }
        Seen.refused("16: 1 ahead of 6", map -> Due.town(map, APART), map -> map.place(3, 2), 1);
        Seen.refused("16: 1 ahead of 6, below", map -> Due.town(map, APART), map -> map.place(3, -1), 1);
        PacedMap map = mapOf("place a;");
        map.settle();
        Due.with("16: one that is settled", map, map.place(1, 0), -1, 6);
    }

    /** "STATUS tells NONE from -1". */
    private static void placeStatusTellsNone() {
        PacedMap map = mapOf("place a;place b;place c;walker u;leg u b a east 1 north 1;");
        Due.with("16: -1 east", map, map.place(1, 0), -1, 0);
        Due.with("16: NONE east", map, map.place(2, 0), -1, 6);
        Due.with("16: -1 north", map, map.place(1, 1), -1, 0);
        Due.with("16: NONE of no such", map, map.place(3, 1), -1, 1);
    }

    /** apart: each of the two. */
    private static void apartNumbers() {
        Seen.bounds("17: PLACE", Seen::rich, (map, v) -> map.apart(v, 1), 0, 3);
        Seen.bounds("17: other", Seen::rich, (map, v) -> map.apart(1, v), 0, 3);
        Seen.refused("17: without PLACES", map -> Due.town(map, "walker u;"), map -> map.apart(0, 0), 1);
        Seen.refused("17: 1 ahead of 6", map -> Due.town(map, APART), map -> map.apart(3, 5), 1);
    }

    /** "(1; 6: one nowhere); 0 from itself, if it LIES somewhere". */
    private static void apartNowhereAndItself() {
        Seen.Start apart = map -> Due.town(map, APART);
        Seen.refused("17: the one nowhere", apart, map -> map.apart(3, 0), 6);
        Seen.refused("17: the other one nowhere", apart, map -> map.apart(0, 3), 6);
        Seen.refused("17: both nowhere, though joined", apart, map -> map.apart(3, 4), 6);
        Seen.refused("17: itself nowhere", apart, map -> map.apart(4, 4), 6);
        Seen.only("17: itself", apart, map -> map.apart(0, 0), 0);
        Seen.only("17: itself, another one", apart, map -> map.apart(2, 2), 0);
        Seen.only("17: 3", apart, map -> map.apart(2, 0), 3);
    }

    /** "YARDS east and north, without sign, together". */
    private static void apartBothSigns() {
        PacedMap map = mapOf("place a;place b;place c;walker u;leg u a b west 3 north 4;leg u a c east 5 south 6;");
        int[][] wants = {{0, 7, 11}, {7, 0, 18}, {11, 18, 0}};
        for (int a = 0; a < 3; a++) {
            for (int b = 0; b < 3; b++) {
                Due.with("17: " + a + " from " + b, map, map.apart(a, b), wants[a][b], 0);
            }
        }
    }

    /** joined: each of the two. */
    private static void joinedNumbers() {
        Seen.bounds("18: PLACE", Seen::rich, (map, v) -> map.joined(v, 1), 0, 3);
        Seen.bounds("18: other", Seen::rich, (map, v) -> map.joined(1, v), 0, 3);
        Seen.refused("18: without PLACES", map -> Due.town(map, "walker u;"), map -> map.joined(0, 0), 1);
    }

    /** "1 if two PLACES are joined by LEGS, or are one, else 0": by one LEG, by six, by none. */
    private static void joinedOrOne() {
        PacedMap map = mapOf(APART);
        for (int a = 0; a < 5; a++) {
            for (int b = 0; b < 5; b++) {
                Due.with("18: " + a + " and " + b, map, map.joined(a, b), a < 3 == b < 3 ? 1 : 0, 0);
            }
        }
        PacedMap row = mapOf(SEVEN + "walker u;leg u a g east 1 north 0;leg u g b east 1 north 0;leg u b f east 1 north 0;"
            + "leg u f c east 1 north 0;leg u c e east 1 north 0;leg u e d east 1 north 0;");
        Due.with("18: by six", row, row.joined(3, 0), 1, 0);
        row.strike(3);
        Due.with("18: by five not", row, row.joined(3, 0), 0, 0);
        Due.with("18: the rest is", row, row.joined(3, 2), 1, 0);
        PacedMap seven = mapOf(SEVEN);
        Due.with("18: one", seven, seven.joined(6, 6), 1, 0);
        Due.with("18: two", seven, seven.joined(6, 5), 0, 0);
    }

    /** "(LEGS that are STRUCK do not count anywhere, as if they were not there.)" */
    private static void struckLegsDoNotCount() {
        String ahead = "odds 3;place a;place b;place c;walker u;walker v;";
        String legs = "leg u b c east 1 north 2;leg v c a east 3 north 3;leg u a b west 4 south 5;";
        PacedMap with = mapOf(ahead + legs + "leg u a c east 9 north 0;leg v a b east 0 north 1;leg u c b east 7 north 7;");
        PacedMap without = mapOf(ahead + legs);
        for (int leg = 3; leg < 6; leg++) {
            with.strike(leg);
        }
        for (int what : new int[] {6, 8, 9, 10, 11}) {
            Due.is("13: as if not there, told(" + what + ")", with.told(what), without.told(what));
        }
        for (int place = 0; place < 3; place++) {
            Due.is("16: as if not there", with.place(place, 0), without.place(place, 0));
            Due.is("33: as if not there", with.way(place, (place + 1) % 3), without.way(place, (place + 1) % 3));
            Due.is("18: as if not there", with.joined(place, 0), without.joined(place, 0));
        }
        for (int set = 0; set < 4; set++) {
            Due.is("29: as if not there", with.fits(set), without.fits(set));
            Due.is("32: as if not there", with.ask(set, 1), without.ask(set, 1));
        }
        Due.is("27: as if not there", with.out(), without.out());
        Due.is("28: as if not there", with.outSet(), without.outSet());
        with.share(0);
        without.share(0);
        Due.is("39: as if not there", with.top() * 1000 + with.bottom(), without.top() * 1000 + without.bottom());
        Due.is("36: as if not there", with.game(1), without.game(1));
    }

    /** "nothing changes by it": what is asked leaves all as it is. */
    private static void nothingChanges() {
        Seen.Call[] calls = {
            m -> m.told(6), m -> m.told(8), m -> m.told(9), m -> m.told(10), m -> m.told(11), m -> m.walker(1, 4), m -> m.leg(0, 7),
            m -> m.place(2, 0), m -> m.apart(1, 2), m -> m.joined(1, 2), m -> m.out(), m -> m.outSet(), m -> m.fits(3),
            m -> m.way(0, 2), m -> m.game(4), m -> m.moveOf(3), m -> m.lived(3), m -> m.ask(3, 0), m -> m.ask(3, 1),
            m -> m.firstFault(3, 1), m -> m.wayAt(0, 2, 1), m -> m.read(0, 0)
        };
        for (int i = 0; i < calls.length; i++) {
            PacedMap map = Seen.begun(Seen::rich);
            calls[i].on(map);
            Due.is("nothing changes by call " + i + ", which is taken", map.status(), 0);
            Seen.alike("nothing changes by call " + i, map, Seen.begun(Seen::rich), true);
        }
    }
}
