import java.util.ArrayList;
import java.util.List;

/**
 * All that can be seen of an object, asked to its end: what it tells, its TRAYS, its DAYS lived, its tape read,
 * its MARKS undone. Two objects of which all is seen alike are alike. And the calls that are refused: they are
 * made on one of two objects that were begun alike, which must be seen alike behind it.
 */
final class Seen {
    /** Far more than a Seen asks of the fullest object, and with what comes ahead of it under the 512 calls. */
    private static final int MOST_CALLS = 430;

    private static final int BLANKS = 0x20202020;

    /** The calls by which an object is begun. */
    interface Start {
        void on(PacedMap map);
    }

    interface Call {
        Object on(PacedMap map);
    }

    /** A call of which one number is tried. */
    interface CallOf {
        Object on(PacedMap map, int number);
    }

    private final PacedMap map;
    private final List<String> rows = new ArrayList<>();
    private int calls = 0;

    private Seen(PacedMap map) {
        this.map = map;
    }

    /** With the tape and what fault() tells, or without these two, which a text with a FAULT changes. */
    static List<String> of(PacedMap map, boolean texts) {
        Seen seen = new Seen(map);
        seen.bare("top", map.top());
        seen.bare("bottom", map.bottom());
        if (texts) {
            seen.bare("fault(0)", map.fault(0));
            seen.bare("fault(1)", map.fault(1));
        }
        seen.lived();
        seen.town();
        seen.trays();
        seen.livedOnce();
        seen.tape(texts);
        seen.marks();
        if (seen.calls > MOST_CALLS) {
            Due.is("a Seen's calls are few", seen.calls, MOST_CALLS);
        }
        return seen.rows;
    }

    /** The answer of a call that has no STATUS. */
    private void bare(String what, long got) {
        calls++;
        rows.add(what + " = " + got);
    }

    /** An answer; of NONE and of -1 the STATUS, too. */
    private void put(String what, long got) {
        calls++;
        if (got == -1) {
            calls++;
            rows.add(what + " = -1, STATUS " + map.status());
        } else {
            rows.add(what + " = " + got);
        }
    }

    private void lived() {
        for (int what = 0; what < 5; what++) {
            put("lived(" + what + ")", map.lived(what));
        }
    }

    private void town() {
        for (int what = 0; what < 12; what++) {
            put("told(" + what + ")", map.told(what));
        }
        for (int walker = 0; walker < map.told(1); walker++) {
            put("FAULT of " + walker, map.walker(walker, 3));
            put("legs of " + walker, map.walker(walker, 4));
        }
        for (int leg = 0; leg < map.told(2); leg++) {
            for (int what = 0; what < 8; what++) {
                put("leg(" + leg + ", " + what + ")", map.leg(leg, what));
            }
        }
        for (int place = 0; place < map.told(0); place++) {
            put("place(" + place + ", 0)", map.place(place, 0));
            put("place(" + place + ", 1)", map.place(place, 1));
        }
        calls += 20;
    }

    private void trays() {
        for (int tray = 0; tray < 4; tray++) {
            for (int i = 0; i < 61; i++) {
                long got = map.read(tray, i);
                int why = map.status();
                calls += 2;
                rows.add("read(" + tray + ", " + i + ") = " + got + ", STATUS " + why);
                if (why != 0) {
                    break;
                }
            }
        }
        for (int tray = 0; tray < 4; tray++) {
            // A TRAY of no numbers has a sort, too: that is seen by what pours to it.
            put("pour to " + tray, map.pour(0, 0, tray, 0, 0) ? 1 : -1);
            put("write to " + tray, map.write(tray, 0, 0x1_8000_8181L) ? 1 : -1);
            put("cut in " + tray, map.read(tray, 0));
        }
    }

    /** The DAYS, by what they do; all that is asked behind it is asked of what came of them. */
    private void livedOnce() {
        put("live(77)", map.live(77));
        lived();
        for (int what = 4; what < 9; what++) {
            put("then told(" + what + ")", map.told(what));
        }
    }

    /** The tape, by what it is as a text of DAYS; and names, by DAYS that tell them. */
    private void tape(boolean texts) {
        if (texts) {
            int fed = map.feed(BLANKS, BLANKS, BLANKS, BLANKS, BLANKS);
            bare("the tape", fed);
            put("days of it", map.days(Math.min(fed, 300)));
            bare("with FAULT", map.fault(0));
            bare("at", map.fault(1));
            put("live of it", map.live(78));
            put("where one stands", map.told(4));
            bare("the tape then", map.feed(BLANKS, BLANKS, BLANKS, BLANKS, BLANKS));
        }
        map.days(0);
        put("days of names", Due.days(map, "when at a;believe u 1;end;when at b;believe v 2;end;"));
        bare("which name", map.fault(1));
        calls += 5;
    }

    private void marks() {
        for (int mark = 3; mark >= 0; mark--) {
            int left = map.undo();
            put("undo()", left);
            if (left < 0) {
                break;
            }
            for (int what = 0; what < 9; what++) {
                put("back: told(" + what + ")", map.told(what));
            }
            for (int walker = 0; walker < map.told(1); walker++) {
                put("back: FAULT of " + walker, map.walker(walker, 3));
            }
            put("back: live(79)", map.live(79));
            put("back: missed", map.lived(0));
            calls += 5;
        }
    }

    static PacedMap begun(Start start) {
        PacedMap map = new PacedMap();
        start.on(map);
        return map;
    }

    private static long number(Object answer) {
        if (answer instanceof Boolean) {
            return (Boolean) answer ? 1 : 0;
        }
        return answer instanceof Long ? (Long) answer : (Integer) answer;
    }

    /** A call that is refused: NONE or false, its STATUS, and nothing else has changed. */
    static void refused(String what, Start start, Call call, int status) {
        refused(what, start, call, status, status != 9);
    }

    private static void refused(String what, Start start, Call call, int status, boolean texts) {
        PacedMap map = begun(start);
        Object got = call.on(map);
        Due.with(what, map, number(got), got instanceof Boolean ? 0 : -1, status);
        alike(what, map, begun(start), texts);
    }

    /** A call that is taken, but changes nothing. */
    static void only(String what, Start start, Call call, long want) {
        PacedMap map = begun(start);
        Due.with(what, map, number(call.on(map)), want, 0);
        alike(what, map, begun(start), true);
    }

    /** Two objects are seen alike. */
    static void alike(String what, PacedMap one, PacedMap other, boolean texts) {
        List<String> got = of(one, texts);
        List<String> want = of(other, texts);
        int rows = Math.min(got.size(), want.size());
        for (int i = 0; i < rows; i++) {
            if (!got.get(i).equals(want.get(i))) {
                Due.is(what + ": has changed " + got.get(i) + ", was " + want.get(i), 0, 1);
                return;
            }
        }
        Due.is(what + ": as many rows", got.size(), want.size());
    }

    /**
     * Of a number of a call, the others being such as are taken: the least and the most are taken, those next to
     * them and those farthest off are refused by STATUS 1.
     */
    static void bounds(String what, Start start, CallOf call, int least, int most) {
        taken(what + " " + least, start, call, least);
        taken(what + " " + most, start, call, most);
        for (int v : new int[] {least - 1, most + 1, Integer.MIN_VALUE, Integer.MAX_VALUE}) {
            refused(what + " " + v, start, map -> call.on(map, v), 1);
        }
    }

    private static void taken(String what, Start start, CallOf call, int v) {
        PacedMap map = begun(start);
        Object got = call.on(map, v);
        if (got instanceof Boolean) {
            Due.is(what, (Boolean) got, true);
        }
        Due.is(what + " is taken", map.status(), 0);
    }

    /**
     * Places a (0, 0), b (4, 0), c (4, 6), d (0, 5); u is plain, v is turned once, w has the left hand and the
     * stride 2. Leg 4, from d to c, is told as 4 east and 2 north, so it misses by 1.
     */
    static final String TOWN = "odds 4;place a;place b;place c;place d;walker u;walker v turned 1;"
        + "walker w left stride 2;leg u a b east 4 north 0;leg v b c west 6 north 0;leg w c a east 2 south 3;"
        + "leg u a d east 0 north 5;leg v d c west 2 north 4;";

    /** Of all that an object can hold there is something, and TRAY 3 is MISSING; all STATUS but 4 can come by. */
    static void rich(PacedMap map) {
        map.tray(0, 0, 3);
        map.write(0, 1, 1);
        map.write(0, 2, 2);
        map.tray(1, 2, 8);
        map.write(1, 7, -77777);
        map.tray(2, 0, 5);
        map.write(2, 4, 9);
        Due.town(map, TOWN);
        map.mark();
        map.strike(4);
        Due.days(map, "go 0;any;when at b;strike 1;end;any;");
        map.live(3);
        map.mark();
        map.believe(1, 3);
        map.misread(2, 1);
        Due.town(map, "odds 17;");
        Due.feed(map, "believe u 3;when at a;go 0;end;strike 2;");
        map.told(0);
    }

    /** As many PLACES, WALKERS, LEGS, MARKS as there can be, and a tape without room. */
    static void full(PacedMap map) {
        map.mark();
        Due.town(map, "place a;place b;place c;place d;place e;place f;place g;walker u;walker v;walker x;walker y left;"
            + "leg u a b east 1 north 1;leg v b c east 1 north 1;".repeat(6));
        map.mark();
        map.strike(3);
        map.mark();
        Due.feed(map, " ".repeat(900));
        map.told(0);
    }
}
