/** MARKS (promises 44, 45), STATUS, and an object's 512 calls: each sentence that names a boundary has a test of its own. */
public final class EdgesOfMarksTest {
    private static final String ONE = "odds 5;place a;place b;walker u;walker v left;leg u a b east 1 north 0;";

    public static void main(String[] args) {
        marksAtMostThree();
        undoOfNone();
        undoHowManyAreLeft();
        backToTheLatestMark();
        allThatBecameOfTheTown();
        theDaysAreKept();
        noDaysAreKept();
        namesAreKept();
        aTownOfNothingIsKept();
        aMarkIsAsAllWasThen();
        theMarkIsGoneThen();
        whatIsNotTakenBack();
        nothingIsLeftOver();
        marksOutliveATown();
        eachStatusFromOneToNine();
        statusZeroElse();
        refusedLeavesAll();
        fiveHundredAndTwelveCalls();
        callsOfNothing();
        Due.end("EdgesOfMarksTest");
    }

    private static PacedMap mapOf(String town) {
        PacedMap map = new PacedMap();
        Due.with("town of " + town, map, Due.town(map, town) >= 0, true, 0);
        return map;
    }

    /** "MARKS, at most 3": "A MARK more: how many there are (4)". */
    private static void marksAtMostThree() {
        PacedMap map = new PacedMap();
        for (int marks = 1; marks <= 3; marks++) {
            Due.with("44: MARK " + marks, map, map.mark(), marks, 0);
        }
        Due.with("44: a fourth", map, map.mark(), -1, 4);
        Due.with("44: three are left", map, map.undo(), 2, 0);
        Due.with("44: one more again", map, map.mark(), 3, 0);
        Due.with("44: a fourth again", map, map.mark(), -1, 4);
        Seen.refused("44: a fourth", Seen::full, m -> m.mark(), 4);
    }

    /** "(6)": at first, and when all are gone. */
    private static void undoOfNone() {
        Seen.refused("45: at first", map -> { }, map -> map.undo(), 6);
        Seen.Start gone = map -> {
            Seen.rich(map);
            map.undo();
            map.undo();
            map.strike(0);
        };
        Seen.refused("45: all are gone", gone, map -> map.undo(), 6);
    }

    /** "how many there are left": two, one, none. */
    private static void undoHowManyAreLeft() {
        PacedMap map = Seen.begun(Seen::full);
        for (int left = 2; left >= 0; left--) {
            Due.with("45: " + left + " left", map, map.undo(), left, 0);
        }
        Due.with("45: none", map, map.undo(), -1, 6);
        Due.with("44: one again", map, map.mark(), 1, 0);
    }

    /** "all is taken back to the latest MARK": not to one ahead of it. */
    private static void backToTheLatestMark() {
        PacedMap map = mapOf(ONE);
        for (int odds = 10; odds < 13; odds++) {
            map.rule(odds);
            map.mark();
        }
        map.rule(16);
        for (int odds = 12; odds >= 10; odds--) {
            map.undo();
            Due.with("45: ODDS " + odds, map, map.told(3), odds, 0);
            map.rule(1);
        }
    }

    /** "the TOWN with all that became of it": each thing by itself. */
    private static void allThatBecameOfTheTown() {
        Seen.Start start = map -> {
            Due.town(map, Seen.TOWN);
            map.strike(2);
            map.believe(1, 17);
            map.go(0);
            map.mark();
        };
        Seen.Call[] calls = {
            m -> m.strike(0), m -> m.restore(2), m -> m.believe(0, 3), m -> m.believe(1, 1), m -> m.go(0), m -> m.tell(3, 9, 9),
            m -> m.tell(3, 0, 9), m -> m.pace(0, 0, 1, 1, 1), m -> m.settle(), m -> m.rule(9), m -> m.town(0),
            m -> Due.town(m, ONE), m -> Due.town(m, "place a;place b;place c;place d;place e;place f;place g;"),
            m -> Due.days(m, "strike 0;go 0;"), m -> m.mark(), m -> Due.town(m, "place a;place u;walker v;walker b;")
        };
        for (int i = 0; i < calls.length; i++) {
            PacedMap map = Seen.begun(start);
            calls[i].on(map);
            Due.is("44: call " + i + " was taken", map.status(), 0);
            while (map.undo() > 0) {
                Due.is("45: back by call " + i, map.status(), 0);
            }
            PacedMap ahead = Seen.begun(start);
            ahead.undo();
            Seen.alike("45: all is back behind call " + i, map, ahead, false);
        }
    }

    /** "the DAYS are kept as they are": those ahead come back, whatever was in their place, or if they were gone. */
    private static void theDaysAreKept() {
        Seen.Call[] calls = {m -> m.days(0), m -> Due.days(m, "go 0;stop;any;"), m -> m.town(0), m -> Due.town(m, ONE), m -> m.live(5)};
        for (int i = 0; i < calls.length; i++) {
            PacedMap map = mapOf(ONE);
            Due.days(map, "strike 0;restore 0;loop 2;when at a;believe v 9;end;end;");
            map.mark();
            calls[i].on(map);
            map.undo();
            Due.with("45: the DAYS are back behind call " + i, map, map.live(0), 7, 0);
            Due.with("45: MISSED by them", map, map.lived(0), 1, 0);
            Due.with("45: RESTORED by them", map, map.lived(3), 1, 0);
            Due.with("45: BELIEVED by them", map, map.walker(1, 3), 9, 0);
        }
    }

    /** That there are none is kept, too. */
    private static void noDaysAreKept() {
        PacedMap map = mapOf(ONE);
        map.mark();
        Due.days(map, "go 0;");
        map.undo();
        Due.with("45: none again", map, map.live(0), -1, 6);
        map.days(0);
        map.mark();
        Due.days(map, "go 0;");
        map.undo();
        Due.with("45: those of no STEPS again", map, map.live(0), 0, 0);
    }

    /** NAMES come back with the TOWN. */
    private static void namesAreKept() {
        PacedMap map = mapOf(ONE);
        map.mark();
        Due.town(map, "place b;place a;walker v;walker u;");
        map.undo();
        Due.with("45: names", map, Due.days(map, "when at a;go 0;when at b;believe v 3;end;end;"), 4, 0);
        map.live(0);
        Due.with("45: b is PLACE 1", map, map.lived(1), 1, 0);
        Due.with("45: v is WALKER 1", map, map.walker(1, 3), 3, 0);
        PacedMap full = mapOf("place a;place b;place c;place d;place e;place f;place g;walker u;walker v;walker w;walker x left;");
        full.mark();
        full.town(0);
        full.undo();
        Due.with("45: the last ones' names", full, Due.days(full, "when at g;end;believe x 4;"), 2, 0);
        full.live(0);
        Due.with("45: what was BELIEVED of the last one", full, full.lived(0), 1, 0);
    }

    /** A MARK of a TOWN of nothing. */
    private static void aTownOfNothingIsKept() {
        PacedMap map = new PacedMap();
        map.mark();
        Due.town(map, ONE);
        Due.days(map, "go 0;");
        map.live(0);
        Due.with("45: none left", map, map.undo(), 0, 0);
        long[] wants = {0, 0, 0, 2, -1, 0, 0, 0, 0, 0, 0, 1};
        for (int what = 0; what < 12; what++) {
            Due.with("45: nothing, told(" + what + ")", map, map.told(what), wants[what], what == 4 ? 6 : 0);
        }
        Due.with("45: no DAYS", map, map.live(0), -1, 6);
    }

    /** "kept as they are": what is done behind a MARK does not come to it; three of them are three. */
    private static void aMarkIsAsAllWasThen() {
        PacedMap map = mapOf(ONE);
        map.mark();
        map.mark();
        map.strike(0);
        map.tell(0, 5, 5);
        map.mark();
        map.restore(0);
        map.undo();
        Due.with("45: STRUCK", map, map.told(7), 1, 0);
        Due.with("45: told anew", map, map.leg(0, 3), 5, 0);
        map.undo();
        Due.with("45: not STRUCK", map, map.told(7), 0, 0);
        Due.with("45: as told", map, map.leg(0, 3), 1, 0);
        map.strike(0);
        map.undo();
        Due.with("45: not STRUCK in the first, too", map, map.told(7), 0, 0);
    }

    /** "which is gone then". */
    private static void theMarkIsGoneThen() {
        PacedMap map = mapOf(ONE);
        map.mark();
        map.undo();
        map.strike(0);
        Due.with("45: none", map, map.undo(), -1, 6);
        Due.with("45: nothing is taken back", map, map.told(7), 1, 0);
        Seen.only("44: undo() right behind mark() changes nothing", Seen::rich, m -> {
            m.mark();
            return m.undo();
        }, 2);
    }

    /** TRAYS, the tape, the FRACTION, what fault(), lived() tell are no part of the TOWN and the DAYS. */
    private static void whatIsNotTakenBack() {
        PacedMap map = mapOf(ONE);
        map.mark();
        map.tray(0, 0, 1);
        map.write(0, 0, 5);
        map.misread(1, 1);
        Due.days(map, "strike 0;");
        map.live(0);
        Due.days(map, "go 12;");
        map.feed(0, 0, 0, 0, 0);
        map.undo();
        Due.with("45: TRAYS", map, map.read(0, 0), 5, 0);
        Due.is("45: top", map.top(), 5);
        Due.is("45: bottom", map.bottom(), 16);
        Due.is("45: fault(0)", map.fault(0), 4);
        Due.is("45: fault(1)", map.fault(1), 3);
        Due.with("45: lived()", map, map.lived(2), 1, 0);
        Due.is("45: the tape", map.feed(0, 0, 0, 0, 0), 40);
    }

    /** A TOWN, DAYS that are taken are as their TEXT tells, whatever mean() went through ahead, or a TEXT with a FAULT. */
    private static void nothingIsLeftOver() {
        Seen.Call[] calls = {m -> m.mean(0, 20), m -> Due.town(m, "odds 9;place z;walker y;place z;"), m -> Due.days(m, "loop 9;any;")};
        for (int i = 0; i < calls.length; i++) {
            PacedMap map = mapOf(Seen.TOWN);
            Due.days(map, "go 0;strike 0;strike 1;strike 2;strike 3;strike 4;believe u 9;");
            calls[i].on(map);
            Due.with("10: a TOWN behind call " + i, map, Due.town(map, Seen.TOWN), 5, 0);
            Due.with("11: DAYS behind call " + i, map, Due.days(map, "when at a;go 0;end;"), 2, 0);
            PacedMap plain = mapOf(Seen.TOWN);
            Due.days(plain, "when at a;go 0;end;");
            if (i == 0) {
                map.misread(1, 1);
                plain.misread(1, 1);
            }
            Seen.alike("10: nothing is left over behind call " + i, map, plain, true);
        }
    }

    /** A TOWN that is taken takes no MARK away. */
    private static void marksOutliveATown() {
        PacedMap map = mapOf(ONE);
        map.mark();
        Due.town(map, Seen.TOWN);
        Due.with("44: two", map, map.mark(), 2, 0);
        map.town(0);
        Due.with("45: one left", map, map.undo(), 1, 0);
        Due.with("45: the second TOWN", map, map.told(2), 5, 0);
        Due.with("45: none left", map, map.undo(), 0, 0);
        Due.with("45: the first TOWN", map, map.told(2), 1, 0);
    }

    /** "STATUS of a call": 1 to 9 each. */
    private static void eachStatusFromOneToNine() {
        PacedMap map = Seen.begun(Seen::rich);
        Due.with("2: 1", map, map.told(12), -1, 1);
        Due.with("2: 2", map, map.read(3, 0), -1, 2);
        Due.with("2: 3", map, map.read(0, 3), -1, 3);
        map.mark();
        Due.with("2: 4", map, map.mark(), -1, 4);
        map.write(0, 0, 9);
        Due.with("2: 5", map, map.area(0, 3), false, 5);
        Due.with("2: 6", map, map.leg(4, 7), -1, 6);
        Due.with("2: 7", map, map.strike(4), -1, 7);
        Due.with("2: 8", map, map.pour(0, 0, 1, 0, 0), false, 8);
        Due.with("2: 9", map, map.town(4), -1, 9);
        Due.with("2: 0", map, map.told(0), 4, 0);
    }

    /** "0 else": each call that has a STATUS, behind one that was refused. */
    private static void statusZeroElse() {
        Seen.Call[] calls = {
            m -> m.tray(0, 0, 0), m -> m.write(0, 0, 0), m -> m.read(0, 0), m -> m.pour(0, 0, 2, 0, 1), m -> m.town(0), m -> m.days(0),
            m -> m.told(0), m -> m.told(3), m -> m.told(4), m -> m.told(5), m -> m.told(6), m -> m.told(11), m -> m.walker(0, 0),
            m -> m.leg(0, 0), m -> m.leg(0, 7), m -> m.place(0, 0), m -> m.apart(0, 1), m -> m.joined(0, 1), m -> m.pace(0, 0, 1, 0, 0),
            m -> m.tell(0, 0, 0), m -> m.strike(0), m -> m.restore(4), m -> m.believe(0, 0), m -> m.settle(), m -> m.go(0),
            m -> m.rule(0), m -> m.out(), m -> m.outSet(), m -> m.fits(0), m -> m.firstFault(1, 0), m -> m.oddsThat(1, 0, 0),
            m -> m.ask(1, 0), m -> m.way(0, 1), m -> m.wayAt(0, 1, 0), m -> m.area(0, 3), m -> m.game(0), m -> m.moveOf(1),
            m -> m.misread(0, 0), m -> m.share(0), m -> m.copyPlaces(1), m -> m.live(0), m -> m.lived(0), m -> m.mean(0, 1),
            m -> m.mark(), m -> m.undo()
        };
        for (int i = 0; i < calls.length; i++) {
            PacedMap map = Seen.begun(Seen::rich);
            map.told(-1);
            Object got = calls[i].on(map);
            Due.is("2: 0 behind call " + i, map.status(), 0);
            Due.is("2: an answer of call " + i, !got.equals(false) && !got.equals(-1), true);
        }
    }

    /** "With another STATUS than 0 a call gives NONE, or false, and changes nothing else": one behind the other. */
    private static void refusedLeavesAll() {
        PacedMap map = Seen.begun(Seen::rich);
        int[] far = {Integer.MIN_VALUE, -1, 64, Integer.MAX_VALUE};
        for (int v : far) {
            map.tray(v, 0, 0);
            map.write(v, 0, 0);
            map.read(v, v);
            map.pour(v, v, v, v, v);
            map.town(v);
            map.days(v);
            map.told(v);
            map.walker(v, v);
            map.leg(v, v);
            map.place(v, v);
            map.apart(v, v);
            map.joined(v, v);
            map.pace(v, v, v, v, v);
            map.tell(v, v, v);
            map.strike(v);
            map.restore(v);
            map.believe(v, v);
            map.go(v);
            map.rule(v);
            map.fits(v);
            map.firstFault(v, v);
            map.oddsThat(v, v, v);
            map.ask(v, v);
            map.way(v, v);
            map.wayAt(v, v, v);
            map.area(v, v);
            map.game(v);
            map.moveOf(v);
            map.misread(v, v);
            map.share(v);
            map.copyPlaces(v);
            map.lived(v);
            map.mean(v, v);
            Due.is("all are refused by " + v, map.status(), 1);
        }
        Seen.alike("refused, all of them", map, Seen.begun(Seen::rich), true);
    }

    /** "An object is used for at most 512 calls": the 512th answers as the first did. */
    private static void fiveHundredAndTwelveCalls() {
        PacedMap map = mapOf(ONE);
        // A TOWN of 71 bytes is fed by four calls; with town() and status() of mapOf() six were made.
        for (int call = 6; call < 511; call++) {
            map.go(0);
        }
        Due.is("512: YARDS gone", map.told(5), 505);
        PacedMap days = mapOf(Seen.TOWN);
        Due.days(days, "loop 99;go 0;go 0;end;");
        for (int call = 0; call < 490; call++) {
            days.live(call);
        }
        Due.is("512: YARDS gone in DAYS", days.told(5), 490 * 4 * 198);
    }

    /** A new object takes each call, and refuses what can't be. */
    private static void callsOfNothing() {
        Seen.Start none = map -> { };
        Seen.refused("apart of nothing", none, m -> m.apart(0, 0), 1);
        Seen.refused("joined of nothing", none, m -> m.joined(0, 0), 1);
        Seen.refused("walker of nothing", none, m -> m.walker(0, 0), 1);
        Seen.refused("leg of nothing", none, m -> m.leg(0, 0), 1);
        Seen.refused("tell of nothing", none, m -> m.tell(0, 0, 0), 1);
        Seen.refused("strike of nothing", none, m -> m.strike(0), 1);
        Seen.refused("restore of nothing", none, m -> m.restore(0), 1);
        Seen.refused("believe of nothing", none, m -> m.believe(0, 0), 1);
        Seen.refused("pace of nothing", none, m -> m.pace(0, 0, 0, 0, 0), 1);
        Seen.refused("way of nothing", none, m -> m.way(0, 1), 1);
        Seen.refused("ask of nothing", none, m -> m.ask(0, 0), 6);
        Seen.refused("share of nothing", none, m -> m.share(0), 1);
        Seen.refused("area of nothing", none, m -> m.area(0, 3), 2);
        Seen.refused("town of nothing", none, m -> m.town(1), 1);
        Seen.refused("days of nothing", none, m -> m.days(1), 1);
        Seen.only("out of nothing", none, m -> m.out(), 0);
        Seen.only("fits of nothing", none, m -> m.fits(0), 1);
        Seen.only("game of nothing", none, m -> m.game(4), 0);
    }
}
