import java.util.function.Consumer;

/** Each promise of the document, with answers worked out by hand: p1() is for promise 1 and so on. */
public final class PromisesTest {
    /**
     * Places a (0, 0), b (4, 0), c (4, 6), d (0, 5); u is plain, v is turned once, w has the left hand and
     * the stride 2. Leg 4, from d to c, is told as 4 east and 2 north, so it misses by 1.
     */
    private static final String TOWN = "odds 4;place a;place b;place c;place d;walker u;walker v turned 1;"
        + "walker w left stride 2;leg u a b east 4 north 0;leg v b c west 6 north 0;leg w c a east 2 south 3;"
        + "leg u a d east 0 north 5;leg v d c west 2 north 4;";
    /** A row of three places and one apart from them, which two legs join with a fifth one. */
    private static final String APART = "place a;place b;place c;place d;place e;walker u;"
        + "leg u a b east 1 north 0;leg u b c east 0 north 2;leg u d e east 3 north 0;leg u e d west 3 north 1;";

    public static void main(String[] args) {
        p1();
        p2();
        p3and4();
        p5to7();
        p8();
        p9();
        p10();
        p10faults();
        p10limits();
        p11();
        p11faults();
        p12();
        p13();
        p14();
        p15();
        p16to18();
        p19and20();
        p21and22();
        p23();
        p24();
        p25();
        p26();
        p27and28();
        p29to31();
        p32();
        p33and34();
        p35();
        p36and37();
        p38();
        p39();
        p40();
        p41();
        p41tests();
        p41any();
        p42();
        p43();
        p44and45();
        Due.end("PromisesTest");
    }

    private static PacedMap mapOf(String town) {
        PacedMap map = new PacedMap();
        Due.with("town of " + town, map, Due.town(map, town) >= 0, true, 0);
        return map;
    }

    private static void p1() {
        PacedMap map = new PacedMap();
        Due.is("1: status", map.status(), 0);
        Due.is("1: top", map.top(), 0);
        Due.is("1: bottom", map.bottom(), 1);
        Due.is("1: fault(0)", map.fault(0), -1);
        for (int what : new int[] {0, 1, 2, 5, 6, 7, 8, 9, 10}) {
            Due.with("1: told(" + what + ")", map, map.told(what), 0, 0);
        }
        Due.with("1: odds", map, map.told(3), 2, 0);
        Due.with("1: nowhere", map, map.told(4), -1, 6);
        Due.with("1: closed", map, map.told(11), 1, 0);
        Due.with("1: no DAYS", map, map.live(0), -1, 6);
        Due.with("1: no MARKS", map, map.undo(), -1, 6);
        for (int tray = 0; tray < 4; tray++) {
            Due.with("1: tray " + tray, map, map.read(tray, 0), -1, 2);
        }
        Due.with("1: an empty tape", map, map.town(1), -1, 1);
        Due.with("1: nothing of it", map, map.town(0), 0, 0);
    }

    private static void p2() {
        PacedMap map = mapOf(TOWN);
        map.strike(12);
        map.top();
        map.bottom();
        map.fault(0);
        map.fault(7);
        map.feed(0, 0, 0, 0, 0);
        Due.is("2: calls without one leave it", map.status(), 1);
        Due.is("2: itself, too", map.status(), 1);
        map.told(0);
        Due.is("2: 0 again", map.status(), 0);
    }

    private static void p3and4() {
        PacedMap map = mapOf(TOWN);
        Due.fraction("3: 7 of 16", map, map.misread(2, 1), 7, 16);
        Due.with("3: refused", map, map.misread(13, 0), false, 1);
        Due.is("3: the one ahead stays", map.top(), 7);
        Due.is("4: the one ahead stays", map.bottom(), 16);
        Due.fraction("3: 0 is 0 by 1", map, map.misread(2, 3), 0, 1);
        Due.fraction("3: all", map, map.misread(2, 0), 1, 1);
    }

    private static void p5to7() {
        PacedMap map = new PacedMap();
        Due.with("5: no such", map, map.tray(4, 0, 1), false, 1);
        Due.with("5: below", map, map.tray(-1, 0, 1), false, 1);
        Due.with("5: sort 4", map, map.tray(0, 4, 1), false, 1);
        Due.with("5: sort -1", map, map.tray(0, -1, 1), false, 1);
        Due.with("5: 61", map, map.tray(0, 0, 61), false, 1);
        Due.with("5: -1", map, map.tray(0, 0, -1), false, 1);
        Due.with("5: still missing", map, map.read(0, 0), -1, 2);
        long[] wants = {-1, 511, 511, 511};
        long[] deep = {0, 0, Integer.MIN_VALUE, 0x180000000L};
        for (int sort = 0; sort < 4; sort++) {
            Due.with("5: 60", map, map.tray(sort, sort, 60), true, 0);
            Due.with("7: 0 at first", map, map.read(sort, 59), 0, 0);
            Due.with("6: 511", map, map.write(sort, 59, 511), true, 0);
            Due.with("7: cut", map, map.read(sort, 59), wants[sort], 0);
            map.write(sort, 0, 0x180000000L);
            Due.with("7: cut high", map, map.read(sort, 0), deep[sort], 0);
        }
        map.write(1, 1, 40000);
        Due.with("7: 16 bits", map, map.read(1, 1), 40000 - 65536, 0);
        Due.with("6: behind", map, map.write(0, 60, 1), false, 3);
        Due.with("6: ahead", map, map.write(0, -1, 1), false, 3);
        Due.with("6: no such", map, map.write(4, 0, 1), false, 1);
        Due.with("7: behind", map, map.read(0, 60), -1, 3);
        Due.with("7: ahead", map, map.read(0, Integer.MIN_VALUE), -1, 3);
        Due.with("7: no such", map, map.read(-1, 0), -1, 1);
        Due.with("5: anew", map, map.tray(0, 1, 2), true, 0);
        Due.with("7: 0 again", map, map.read(0, 0), 0, 0);
        Due.with("7: shorter", map, map.read(0, 2), -1, 3);
        Due.with("5: empty", map, map.tray(0, 0, 0), true, 0);
        Due.with("7: nothing", map, map.read(0, 0), -1, 3);
    }

    private static void p8() {
        PacedMap map = new PacedMap();
        map.tray(0, 1, 5);
        map.tray(1, 1, 3);
        map.tray(2, 2, 60);
        for (int i = 0; i < 5; i++) {
            map.write(0, i, i + 1);
        }
        Due.with("8: to itself, as they were", map, map.pour(0, 0, 0, 1, 4), true, 0);
        Due.with("8: 1", map, map.read(0, 0), 1, 0);
        Due.with("8: 1 again", map, map.read(0, 1), 1, 0);
        Due.with("8: 4", map, map.read(0, 4), 4, 0);
        Due.with("8: to another", map, map.pour(0, 2, 1, 0, 3), true, 0);
        Due.with("8: 2", map, map.read(1, 0), 2, 0);
        Due.with("8: 4 last", map, map.read(1, 2), 4, 0);
        Due.with("8: nothing at the end", map, map.pour(0, 5, 1, 3, 0), true, 0);
        Due.with("8: past the end", map, map.pour(0, 6, 1, 3, 0), false, 3);
        Due.with("8: too many", map, map.pour(0, 0, 1, 0, 4), false, 3);
        Due.with("8: too many of the first", map, map.pour(1, 1, 0, 0, 3), false, 3);
        Due.with("8: far too many", map, map.pour(0, Integer.MAX_VALUE, 1, 0, Integer.MAX_VALUE), false, 3);
        Due.with("8: below", map, map.pour(0, -1, 1, 0, 1), false, 1);
        Due.with("8: at below", map, map.pour(0, 0, 1, -1, 1), false, 1);
        Due.with("8: many below", map, map.pour(0, 0, 1, 0, -1), false, 1);
        Due.with("8: below ahead of missing", map, map.pour(0, -1, 3, 0, 1), false, 1);
        Due.with("8: missing ahead of unlike", map, map.pour(2, 0, 3, 0, 99), false, 2);
        Due.with("8: unlike ahead of too few", map, map.pour(0, 0, 2, 0, 99), false, 8);
        Due.with("8: no such", map, map.pour(0, 0, 4, 0, 1), false, 1);
        Due.with("8: no such from", map, map.pour(-1, 0, 0, 0, 1), false, 1);
    }

    private static void p9() {
        PacedMap map = new PacedMap();
        for (int i = 1; i <= 45; i++) {
            Due.is("9: feed " + i, map.feed(0x706c6163, 0x6520613b, 0x20202020, 0x20202020, 0x20202020), 20L * i);
        }
        Due.is("9: too many", map.feed(0, 0, 0, 0, 0), -1);
        Due.with("9: nothing came", map, map.town(901), -1, 1);
        Due.with("9: highest first", map, map.town(20), 0, 0);
        Due.is("9: a place", map.told(0), 1);
        Due.is("9: empty then", map.feed(0, 0, 0, 0, 0), 20);
    }

    private static void p10() {
        PacedMap map = mapOf(TOWN);
        Due.is("10: legs", map.told(2), 5);
        Due.is("10: odds", map.told(3), 4);
        Due.is("10: stands", map.told(4), 0);
        Due.days(map, "go 0;strike 0;");
        map.live(0);
        Due.is("10: gone", map.told(5), 4);
        Due.with("10: below 0", map, map.town(-1), -1, 1);
        Due.feed(map, "place x;");
        Due.with("10: more than there is", map, map.town(21), -1, 1);
        Due.with("10: the tape stayed", map, map.town(8), 0, 0);
        Due.is("10: one place", map.told(0), 1);
        Due.is("10: none struck", map.told(7), 0);
        Due.is("10: none gone", map.told(5), 0);
        Due.is("10: odds without", map.told(3), 2);
        Due.with("10: no DAYS", map, map.live(0), -1, 6);
        Due.with("10: an old one stays", map, Due.town(map, "place p;place p;"), -1, 9);
        Due.is("10: still one place", map.told(0), 1);
        Due.with("10: the tape is empty", map, map.town(1), -1, 1);
        Due.with("10: nothing", map, map.town(0), 0, 0);
        Due.with("10: nowhere", map, map.told(4), -1, 6);
        Due.with("10: blanks", map, Due.town(map, "  \n place\na\n;walker u;walker v left;"), 0, 0);
        Due.is("10: walkers", map.told(1), 2);
        Due.with("10: without blanks", map, Due.town(map, "odds4;walker u turned3left stride2;"), 0, 0);
        Due.is("10: 4", map.told(3), 4);
        Due.is("10: 15", map.walker(0, 3), 15);
    }

    private static void fault(PacedMap map, String text, int kind, int place) {
        Due.with("10: " + text, map, Due.town(map, text), -1, 9);
        Due.is("10: fault(0) of " + text, map.fault(0), kind);
        Due.is("10: fault(1) of " + text, map.fault(1), place);
    }

    private static void p10faults() {
        PacedMap map = new PacedMap();
        fault(map, "#", 1, 0);
        fault(map, "odds \t4;", 1, 5);
        fault(map, "odds 12345;", 1, 5);
        fault(map, "12345", 1, 0);
        fault(map, "odds 4#", 1, 6);
        fault(map, "place A;", 1, 6);
        fault(map, "place a\u00e9;", 1, 7);
        fault(map, ";", 2, 0);
        fault(map, "go 0;", 2, 0);
        fault(map, "odds", 2, 4);
        fault(map, "odds  ", 2, 6);
        fault(map, "odds 4", 2, 6);
        fault(map, "odds odds", 2, 5);
        fault(map, "odds 4 <", 2, 7);
        fault(map, "place east;", 2, 6);
        fault(map, "place stop;", 2, 6);
        fault(map, "place misses;", 2, 6);
        fault(map, "place abcdefghi;", 2, 6);
        fault(map, "place 5;", 2, 6);
        fault(map, "place a b;", 2, 8);
        fault(map, "walker u left turned 1;", 2, 14);
        fault(map, "walker u stride 1 left;", 2, 18);
        fault(map, "place a;place a", 3, 14);
        fault(map, "place a;walker a", 3, 15);
        fault(map, "walker a;place a", 3, 15);
        fault(map, "leg u", 3, 4);
        fault(map, "place a;leg a", 3, 12);
        fault(map, "walker u;leg u u", 3, 15);
        fault(map, "walker u;place a;leg u a u", 3, 25);
        fault(map, "odds 17;", 4, 5);
        fault(map, "walker u turned 4;", 4, 16);
        fault(map, "walker u stride 0;", 4, 16);
        fault(map, "walker u stride 4;", 4, 16);
        fault(map, "odds 2;odds", 5, 7);
        fault(map, "walker u;place a;leg u a a", 5, 25);
        String two = "walker u;place a;place b;leg u a b ";
        fault(map, two + "east 100 ", 4, 40);
        fault(map, two + "west 99 south 100", 4, 49);
        fault(map, two + "north 1", 2, 35);
        fault(map, two + "east 1 west", 2, 42);
        fault(map, two + "east 1 north 1", 2, 49);
        fault(map, two + "east 1 north 1;leg", 2, 53);
        Due.with("10: the edges", map, Due.town(map, "odds 0016;" + two + "west 99 south 0099;"), 1, 0);
        Due.is("10: 16", map.told(3), 16);
        Due.is("10: -99", map.leg(0, 3), -99);
        Due.is("10: -99 north", map.leg(0, 4), -99);
        Due.with("10: long names", map, Due.town(map, "place abcdefgh;place abcdefg;place abcdefgi;"), 0, 0);
    }

    private static void p10limits() {
        PacedMap map = new PacedMap();
        String seven = "place a;place b;place c;place d;place e;place f;place g;";
        String four = "walker u;walker v;walker w;walker x;";
        String leg = "leg u a b east 1 north 1;";
        Due.with("10: seven, four, twelve", map, Due.town(map, seven + four + leg.repeat(12)), 12, 0);
        Due.is("10: seven", map.told(0), 7);
        Due.is("10: four", map.told(1), 4);
        fault(map, seven + "place", 6, 56);
        fault(map, seven + "place a", 6, 56);
        fault(map, four + "walker y;", 6, 36);
        fault(map, seven + four + leg.repeat(12) + "leg#", 6, 56 + 36 + 12 * 25);
        Due.is("10: the old one stays", map.told(2), 12);
    }

    private static void p11() {
        PacedMap map = mapOf(TOWN);
        Due.with("11: below 0", map, map.days(-1), -1, 1);
        Due.with("11: more than there is", map, map.days(1), -1, 1);
        for (int i = 0; i < 16; i++) {
            map.feed(0x676f2030, 0x3b202020, 0x20202020, 0x20202020, 0x20202020);
        }
        Due.with("11: above 300", map, map.days(301), -1, 1);
        Due.with("11: 300", map, map.days(300), 15, 0);
        Due.with("11: the tape is empty", map, map.days(1), -1, 1);
        Due.with("11: ends are no steps", map, Due.days(map, "loop 2;when closed;any;end;end;stop;"), 4, 0);
        Due.with("11: a fault", map, Due.days(map, "go 12;"), -1, 9);
        // It is not closed, so the when is come to twice and the any never.
        Due.with("11: the old ones stay", map, map.live(0), 4, 0);
        Due.with("11: 30", map, Due.days(map, "any;".repeat(30)), 30, 0);
        Due.with("11: without blanks", map, Due.days(map, "when paces<5;go0;end;"), 2, 0);
        Due.with("11: every kind", map, Due.days(map, "go 11;strike 0;restore 0;believe u 23;any;when at a;end;"
            + "when closed;end;when misses 11;end;when paces<0;end;when paces>9999;end;when paces=1;end;loop 99;end;stop;"), 13, 0);
    }

    private static void daysFault(PacedMap map, String text, int kind, int place) {
        Due.with("11: " + text, map, Due.days(map, text), -1, 9);
        Due.is("11: fault(0) of " + text, map.fault(0), kind);
        Due.is("11: fault(1) of " + text, map.fault(1), place);
    }

    private static void p11faults() {
        PacedMap map = mapOf(TOWN);
        daysFault(map, "go 1#", 1, 4);
        daysFault(map, "go 12345;", 1, 3);
        daysFault(map, "place a;", 2, 0);
        daysFault(map, "end;", 2, 0);
        daysFault(map, "any;end;", 2, 4);
        daysFault(map, "loop 2;any;", 2, 11);
        daysFault(map, "loop 2;any;end", 2, 14);
        daysFault(map, "loop 2 any;end;", 2, 7);
        daysFault(map, "when any;", 2, 5);
        daysFault(map, "when paces 5;", 2, 11);
        daysFault(map, "when paces;5;", 2, 10);
        daysFault(map, "when paces < a;", 2, 13);
        daysFault(map, "when closed", 2, 11);
        daysFault(map, "when at 0;", 2, 8);
        daysFault(map, "when at closed;", 2, 8);
        daysFault(map, "believe 0 0;", 2, 8);
        daysFault(map, "believe u;", 2, 9);
        daysFault(map, "believe abcdefghi 0;", 2, 8);
        daysFault(map, "stop", 2, 4);
        daysFault(map, "believe a 0;", 3, 8);
        daysFault(map, "when at u;", 3, 8);
        daysFault(map, "when at z;", 3, 8);
        daysFault(map, "go 12;", 4, 3);
        daysFault(map, "strike 12;", 4, 7);
        daysFault(map, "restore 12;", 4, 8);
        daysFault(map, "believe u 24;", 4, 10);
        daysFault(map, "loop 0;", 4, 5);
        daysFault(map, "loop 100;", 4, 5);
        daysFault(map, "when misses 12;", 4, 12);
        daysFault(map, "any;".repeat(30) + "any", 6, 120);
        daysFault(map, "any;".repeat(30) + "odds", 2, 120);
        String three = "loop 1;when closed;loop 1;";
        daysFault(map, three + "loop", 7, 26);
        daysFault(map, three + "when", 7, 26);
        daysFault(map, three + "any;".repeat(27) + "loop", 6, 26 + 108);
        Due.with("11: three deep, twice", map, Due.days(map, three + "end;end;end;" + three + "end;end;end;"), 6, 0);
    }

    private static void p12() {
        PacedMap map = new PacedMap();
        Due.is("12: ahead of any", map.fault(1), -1);
        map.town(0);
        Due.is("12: none", map.fault(0), 0);
        Due.is("12: nowhere", map.fault(1), -1);
        Due.days(map, "odd");
        Due.is("12: of days", map.fault(0), 2);
        Due.is("12: at 0", map.fault(1), 0);
        map.town(1);
        Due.is("12: 1 leaves it", map.fault(0), 2);
        Due.is("12: others", map.fault(2), -1);
        Due.is("12: below", map.fault(-1), -1);
        map.days(0);
        Due.is("12: none again", map.fault(0), 0);
    }

    private static void p13() {
        PacedMap map = mapOf(TOWN);
        long[] wants = {4, 3, 5, 4, 0, 0, 15, 0, 16, 0, 2, 0};
        for (int what = 0; what < 12; what++) {
            Due.with("13: told(" + what + ")", map, map.told(what), wants[what], 0);
        }
        Due.with("13: 12", map, map.told(12), -1, 1);
        Due.with("13: -1", map, map.told(-1), -1, 1);
        map.strike(3);
        Due.is("13: legs, struck, too", map.told(2), 5);
        Due.is("13: struck", map.told(7), 8);
        Due.is("13: d lies by leg 4", map.told(6), 15);
        Due.is("13: a bridge", map.told(9), 16);
        Due.is("13: rings", map.told(10), 1);
        Due.is("13: closed", map.told(11), 1);
        Due.is("13: none misses", map.told(8), 0);
        map.strike(4);
        Due.is("13: d lies nowhere", map.told(6), 7);
        Due.is("13: two parts", map.told(10), 3 - 4 + 2);
        PacedMap apart = mapOf(APART);
        Due.is("13: lie", apart.told(6), 7);
        Due.is("13: bridges", apart.told(9), 3);
        Due.is("13: none of those that lie misses", apart.told(8), 0);
        Due.is("13: not closed, though nowhere", apart.told(11), 0);
        apart.tell(3, -3, 0);
        Due.is("13: closed now", apart.told(11), 1);
        Due.is("13: one ring", apart.told(10), 1);
    }

    private static void p14() {
        PacedMap map = mapOf(TOWN);
        long[][] wants = {{0, 0, 1, 0, 9}, {1, 0, 1, 1, 18}, {0, 1, 2, 12, 4}};
        map.strike(0);
        for (int w = 0; w < 3; w++) {
            for (int what = 0; what < 5; what++) {
                Due.with("14: walker " + w + ", " + what, map, map.walker(w, what), wants[w][what], 0);
            }
        }
        Due.with("14: no such", map, map.walker(3, 0), -1, 1);
        Due.with("14: below", map, map.walker(-1, 0), -1, 1);
        Due.with("14: what 5", map, map.walker(0, 5), -1, 1);
        Due.with("14: what -1", map, map.walker(0, -1), -1, 1);
    }

    private static void p15() {
        PacedMap map = mapOf(TOWN);
        long[][] wants = {
            {0, 0, 1, 4, 0, 4, 0, 0}, {1, 1, 2, -6, 0, 0, 6, 0}, {2, 2, 0, 2, -3, -4, -6, 0},
            {0, 0, 3, 0, 5, 0, 5, 0}, {1, 3, 2, -2, 4, 4, 2, 1}};
        for (int leg = 0; leg < 5; leg++) {
            for (int what = 0; what < 8; what++) {
                Due.with("15: leg " + leg + ", " + what, map, map.leg(leg, what), wants[leg][what], 0);
            }
        }
        Due.with("15: no such", map, map.leg(5, 0), -1, 1);
        Due.with("15: below", map, map.leg(-1, 0), -1, 1);
        Due.with("15: what 8", map, map.leg(0, 8), -1, 1);
        Due.with("15: what -1", map, map.leg(0, -1), -1, 1);
        map.tell(0, -1, 0);
        Due.with("15: -1 itself", map, map.leg(0, 5), -1, 0);
        map.strike(4);
        Due.with("15: struck", map, map.leg(4, 7), -1, 6);
        Due.with("15: struck, yet told", map, map.leg(4, 5), 4, 0);
        PacedMap apart = mapOf(APART);
        Due.with("15: nowhere", apart, apart.leg(3, 7), -1, 6);
        // Each fault, told as 3 east and 5 north.
        PacedMap one = mapOf("place a;place b;walker u;leg u a b east 3 north 5;");
        long[][] turns = {{3, 5}, {5, -3}, {-3, -5}, {-5, 3}, {-3, 5}, {5, 3}, {3, -5}, {-5, -3}};
        for (int f = 0; f < 24; f++) {
            one.believe(0, f);
            Due.is("15: east by fault " + f, one.leg(0, 5), turns[f % 8][0] * (1 + f / 8));
            Due.is("15: north by fault " + f, one.leg(0, 6), turns[f % 8][1] * (1 + f / 8));
        }
    }

    private static void p16to18() {
        PacedMap map = mapOf(TOWN);
        long[][] wants = {{0, 0}, {4, 0}, {4, 6}, {0, 5}};
        for (int p = 0; p < 4; p++) {
            Due.with("16: east of " + p, map, map.place(p, 0), wants[p][0], 0);
            Due.with("16: north of " + p, map, map.place(p, 1), wants[p][1], 0);
        }
        Due.with("16: no such", map, map.place(4, 0), -1, 1);
        Due.with("16: below", map, map.place(-1, 0), -1, 1);
        Due.with("16: what 2", map, map.place(0, 2), -1, 1);
        Due.with("16: what -1", map, map.place(0, -1), -1, 1);
        map.strike(0);
        // Leg 2, from c to a, lays c first; then leg 1 lays b.
        Due.with("16: laid backward", map, map.place(2, 0), 4, 0);
        Due.with("16: laid by it", map, map.place(1, 1), 0, 0);
        map.tell(2, 3, -3);
        Due.with("16: the first leg by numbers", map, map.place(3, 1), 5, 0);
        Due.with("16: b moved with c", map, map.place(1, 0), 6, 0);
        PacedMap apart = mapOf(APART);
        Due.with("16: nowhere", apart, apart.place(3, 0), -1, 6);
        Due.with("17: 3", apart, apart.apart(0, 2), 3, 0);
        Due.with("17: back", apart, apart.apart(2, 0), 3, 0);
        Due.with("17: itself", apart, apart.apart(1, 1), 0, 0);
        Due.with("17: nowhere", apart, apart.apart(0, 3), -1, 6);
        Due.with("17: itself nowhere", apart, apart.apart(3, 3), -1, 6);
        Due.with("17: no such", apart, apart.apart(0, 5), -1, 1);
        Due.with("17: below", apart, apart.apart(-1, 3), -1, 1);
        Due.with("18: joined", apart, apart.joined(0, 2), 1, 0);
        Due.with("18: apart", apart, apart.joined(0, 3), 0, 0);
        Due.with("18: nowhere, yet joined", apart, apart.joined(4, 3), 1, 0);
        Due.with("18: one", apart, apart.joined(3, 3), 1, 0);
        Due.with("18: no such", apart, apart.joined(5, 5), -1, 1);
        Due.with("18: below", apart, apart.joined(0, -1), -1, 1);
        apart.strike(1);
        Due.with("18: struck", apart, apart.joined(0, 2), 0, 0);
    }

    private static void p19and20() {
        PacedMap map = mapOf(TOWN);
        Due.with("19: no walker", map, map.pace(3, 0, 1, 0, 0), -1, 1);
        Due.with("19: no place", map, map.pace(0, 4, 1, 0, 0), -1, 1);
        Due.with("19: below", map, map.pace(0, 0, -1, 0, 0), -1, 1);
        Due.with("19: to itself", map, map.pace(0, 1, 1, 0, 0), -1, 1);
        Due.with("19: 100", map, map.pace(0, 0, 1, 100, 0), -1, 1);
        Due.with("19: -100", map, map.pace(0, 0, 1, 0, -100), -1, 1);
        for (int i = 5; i < 12; i++) {
            Due.with("19: leg " + i, map, map.pace(2, 1, 3, -99, 99), i, 0);
        }
        Due.is("19: told", map.leg(11, 3), -99);
        Due.is("19: told north", map.leg(11, 4), 99);
        Due.is("19: from", map.leg(11, 1), 1);
        Due.with("19: a 13th", map, map.pace(0, 0, 1, 0, 0), -1, 4);
        Due.with("19: 1 is asked first", map, map.pace(0, 0, 0, 0, 0), -1, 1);
        map.strike(5);
        Due.with("20: struck", map, map.tell(5, 99, -99), true, 0);
        Due.is("20: anew", map.leg(5, 3), 99);
        Due.is("20: anew north", map.leg(5, 4), -99);
        Due.with("20: 100", map, map.tell(5, 100, 0), false, 1);
        Due.with("20: -100 north", map, map.tell(5, 0, -100), false, 1);
        Due.with("20: no such", map, map.tell(12, 0, 0), false, 1);
        Due.with("20: below", map, map.tell(-1, 0, 0), false, 1);
        Due.is("20: stays", map.leg(5, 3), 99);
    }

    private static void p21and22() {
        PacedMap map = mapOf(TOWN);
        Due.with("21: one", map, map.strike(4), 1, 0);
        Due.with("21: again", map, map.strike(4), -1, 7);
        Due.with("21: two", map, map.strike(0), 2, 0);
        Due.with("21: no such", map, map.strike(5), -1, 1);
        Due.with("21: below", map, map.strike(-1), -1, 1);
        Due.is("21: the set", map.told(7), 17);
        Due.with("22: one", map, map.restore(4), 1, 0);
        Due.with("22: again", map, map.restore(4), -1, 7);
        Due.with("22: no such", map, map.restore(5), -1, 1);
        Due.with("22: below", map, map.restore(-1), -1, 1);
        Due.with("22: none", map, map.restore(0), 0, 0);
        Due.is("22: the set", map.told(7), 0);
    }

    private static void p23() {
        PacedMap map = mapOf(TOWN);
        Due.with("23: was 12", map, map.believe(2, 23), 12, 0);
        Due.with("23: was 23", map, map.believe(2, 23), 23, 0);
        Due.is("23: turned", map.walker(2, 0), 3);
        Due.is("23: stride", map.walker(2, 2), 3);
        Due.with("23: 24", map, map.believe(2, 24), -1, 1);
        Due.with("23: -1", map, map.believe(2, -1), -1, 1);
        Due.with("23: no such", map, map.believe(3, 0), -1, 1);
        Due.is("23: stays", map.walker(2, 3), 23);
    }

    private static void p24() {
        PacedMap map = new PacedMap();
        for (int i = 0; i < 7; i++) {
            Due.with("24: " + i, map, map.settle(), i, 0);
            Due.is("24: stands", map.told(4), 0);
        }
        Due.with("24: an eighth", map, map.settle(), -1, 4);
        Due.is("24: only the first lies", map.told(6), 1);
        Due.is("24: no rings", map.told(10), 0);
        PacedMap town = mapOf(TOWN);
        town.go(0);
        Due.with("24: one more", town, town.settle(), 4, 0);
        Due.is("24: who stands stays", town.told(4), 1);
        Due.with("24: no name", town, Due.days(town, "when at e;end;"), -1, 9);
        Due.is("24: so no such", town.fault(0), 3);
    }

    private static void p25() {
        PacedMap map = mapOf(TOWN);
        Due.with("25: along", map, map.go(0), 1, 0);
        Due.is("25: 4 yards", map.told(5), 4);
        Due.with("25: neither end", map, map.go(3), -1, 7);
        Due.with("25: 6 more", map, map.go(1), 2, 0);
        Due.with("25: 10 more, by the stride", map, map.go(2), 0, 0);
        Due.is("25: 20 yards", map.told(5), 20);
        Due.with("25: backward", map, map.go(2), 2, 0);
        map.strike(2);
        Due.with("25: struck", map, map.go(2), -1, 7);
        Due.with("25: no such", map, map.go(5), -1, 1);
        Due.with("25: below", map, map.go(-1), -1, 1);
        Due.is("25: 30 yards", map.told(5), 30);
        Due.is("25: at c", map.told(4), 2);
    }

    private static void p26() {
        PacedMap map = mapOf(TOWN);
        Due.with("26: 16", map, map.rule(16), true, 0);
        Due.is("26: told", map.told(3), 16);
        Due.with("26: 17", map, map.rule(17), false, 1);
        Due.with("26: -1", map, map.rule(-1), false, 1);
        Due.is("26: stays", map.told(3), 16);
        Due.with("26: 0", map, map.rule(0), true, 0);
        Due.is("26: 0 told", map.told(3), 0);
    }

    private static void p27and28() {
        PacedMap map = mapOf(TOWN);
        Due.with("27: one", map, map.out(), 1, 0);
        Due.with("28: leg 3 ahead of leg 4", map, map.outSet(), 8, 0);
        Due.is("27: nothing is struck by it", map.told(7), 0);
        map.strike(3);
        Due.with("27: none", map, map.out(), 0, 0);
        Due.with("28: none", map, map.outSet(), 0, 0);
        // Legs between a and b, all told another way: all but one must go, the last stays.
        PacedMap many = mapOf("place a;place b;walker u;leg u a b east 1 north 0;leg u a b east 2 north 0;"
            + "leg u b a east 3 north 0;leg u a b east 4 north 0;");
        Due.with("27: three", many, many.out(), 3, 0);
        Due.with("28: the first three", many, many.outSet(), 7, 0);
        many.pace(0, 0, 1, 5, 0);
        Due.with("27: not by 3", many, many.out(), -1, 6);
        Due.with("28: not by 3", many, many.outSet(), -1, 6);
        many.strike(0);
        Due.with("27: those besides", many, many.out(), 3, 0);
        Due.with("28: those besides", many, many.outSet(), 14, 0);
        many.tell(4, 4, 0);
        Due.with("28: two agree", many, many.outSet(), 6, 0);
        PacedMap apart = mapOf(APART);
        Due.with("28: of places nowhere, too", apart, apart.outSet(), 4, 0);
    }

    private static void p29to31() {
        PacedMap map = mapOf(TOWN);
        Due.with("29: it is not closed", map, map.fits(0), 0, 0);
        Due.with("30: none ahead of not of it", map, map.firstFault(0, 0), -1, 6);
        Due.with("31: none ahead of not of it", map, map.oddsThat(0, 0, 0), false, 6);
        Due.with("29: three", map, map.fits(7), -1, 1);
        Due.with("29: no such walker", map, map.fits(8), -1, 1);
        Due.with("29: below", map, map.fits(-1), -1, 1);
        map.tell(4, -1, 4);
        Due.with("29: closed", map, map.fits(0), 1, 0);
        Due.with("29: u alone", map, map.fits(1), 1, 0);
        Due.with("30: as he is", map, map.firstFault(1, 0), 0, 0);
        Due.with("30: not of it", map, map.firstFault(1, 1), -1, 7);
        Due.with("30: no such", map, map.firstFault(1, 3), -1, 1);
        Due.with("30: no such set", map, map.firstFault(7, 0), -1, 1);
        Due.with("31: no such fault", map, map.oddsThat(1, 0, 24), false, 1);
        Due.with("31: fault -1", map, map.oddsThat(1, 0, -1), false, 1);
        Due.with("31: not of it", map, map.oddsThat(1, 1, 0), false, 7);
        Due.fraction("31: 1", map, map.oddsThat(1, 0, 0), 1, 1);
        Due.fraction("31: 0", map, map.oddsThat(1, 0, 1), 0, 1);
        // Two legs told alike, one by each: they close where both faults do the same to 2 east.
        PacedMap two = mapOf("place a;place b;walker u turned 1;walker v;leg u a b east 2 north 0;leg v a b east 2 north 0;");
        Due.with("29: as believed", two, two.fits(0), 0, 0);
        Due.with("29: one is as the other", two, two.fits(1), 2, 0);
        Due.with("30: plain", two, two.firstFault(1, 0), 0, 0);
        Due.fraction("31: or turned twice with the left hand", two, two.oddsThat(1, 0, 6), 1, 2);
        // Four ways to look and three strides: of each two faults, so 12 times 2 times 2.
        Due.with("29: both", two, two.fits(3), 48, 0);
        Due.with("30: first", two, two.firstFault(3, 0), 0, 0);
        Due.with("30: second", two, two.firstFault(3, 1), 0, 0);
        Due.fraction("31: 2 of 48", two, two.oddsThat(3, 1, 23), 1, 24);
        Due.is("31: all stays", two.walker(0, 3), 1);
        two.strike(0);
        Due.with("29: all ways", two, two.fits(3), 576, 0);
        two.restore(0);
        two.tell(0, 4, 0);
        Due.with("30: the first has the least", two, two.firstFault(3, 0), 0, 0);
        Due.with("30: then the second", two, two.firstFault(3, 1), 8, 0);
    }

    private static void p32() {
        PacedMap map = mapOf("place a;place b;place c;place d;walker u;walker v;"
            + "leg u a b east 2 north 0;leg u b c east 1 north 3;");
        Due.with("32: one way", map, map.ask(0, 0), -1, 6);
        // From a to b and from a to c (3 and 3) two faults each do the same, from b to c none.
        Due.with("32: b", map, map.ask(1, 0), 1, 0);
        Due.with("32: and c", map, map.ask(1, 1), 2, 0);
        // Of v nothing hangs, so all pairs are as good.
        Due.with("32: a again", map, map.ask(2, 0), 0, 0);
        Due.with("32: and b", map, map.ask(2, 1), 1, 0);
        Due.with("32: what 2", map, map.ask(1, 2), -1, 1);
        Due.with("32: what -1", map, map.ask(1, -1), -1, 1);
        Due.with("32: no such set", map, map.ask(4, 0), -1, 1);
        map.strike(0);
        map.strike(1);
        Due.with("32: none joined", map, map.ask(1, 0), -1, 6);
        map.pace(0, 3, 2, 1, 3);
        Due.with("32: joined elsewhere", map, map.ask(1, 0), 2, 0);
        Due.with("32: the greater one", map, map.ask(1, 1), 3, 0);
    }

    private static void p33and34() {
        PacedMap map = mapOf(TOWN);
        // By d: 5 and 6 yards; by leg 2: 10; by b: 4 and 6.
        Due.with("33: 10", map, map.way(0, 2), 10, 0);
        Due.with("34: 0", map, map.wayAt(0, 2, 0), 0, 0);
        Due.with("34: by b, the first of two", map, map.wayAt(0, 2, 1), 1, 0);
        Due.with("34: 2", map, map.wayAt(0, 2, 2), 2, 0);
        Due.with("34: no such", map, map.wayAt(0, 2, 3), -1, 6);
        Due.with("34: below", map, map.wayAt(0, 2, -1), -1, 1);
        Due.with("33: to itself", map, map.way(1, 1), -1, 1);
        Due.with("34: to itself", map, map.wayAt(1, 1, 0), -1, 1);
        Due.with("33: no such place", map, map.way(0, 4), -1, 1);
        Due.with("33: below", map, map.way(-1, 0), -1, 1);
        Due.with("34: no such place", map, map.wayAt(4, 0, 0), -1, 1);
        Due.with("33: back", map, map.way(2, 0), 10, 0);
        Due.with("34: straight ahead of by b", map, map.wayAt(2, 0, 1), 0, 0);
        map.strike(2);
        Due.with("34: by b ahead of by d", map, map.wayAt(2, 0, 1), 1, 0);
        PacedMap apart = mapOf(APART);
        Due.with("33: by none", apart, apart.way(0, 3), -1, 6);
        Due.with("34: by none", apart, apart.wayAt(0, 3, 0), -1, 6);
        Due.with("33: the shorter of two legs", apart, apart.way(3, 4), 3, 0);
        // Legs of no yards: the row may go round by any place, but by none twice.
        PacedMap none = mapOf("place a;place b;place c;place d;walker u;leg u a d east 0 north 0;"
            + "leg u a c east 0 north 0;leg u c d east 0 north 0;leg u a b east 0 north 0;leg u b c east 0 north 0;");
        Due.with("33: 0", none, none.way(0, 3), 0, 0);
        for (int k = 0; k < 4; k++) {
            Due.with("34: all round, " + k, none, none.wayAt(0, 3, k), k, 0);
        }
        Due.with("34: from d", none, none.wayAt(3, 2, 1), 0, 0);
        Due.with("34: then b", none, none.wayAt(3, 2, 2), 1, 0);
        Due.with("34: then c", none, none.wayAt(3, 2, 3), 2, 0);
    }

    private static void p35() {
        PacedMap map = mapOf(TOWN);
        Due.with("35: missing", map, map.area(0, 3), false, 2);
        map.tray(0, 0, 20);
        int[] round = {0, 1, 2, 3};
        for (int i = 0; i < 20; i++) {
            map.write(0, i, round[i % 4]);
        }
        Due.fraction("35: three", map, map.area(0, 3), 12, 1);
        Due.fraction("35: four", map, map.area(0, 4), 22, 1);
        Due.fraction("35: five times round", map, map.area(0, 20), 110, 1);
        map.write(0, 1, 2);
        map.write(0, 2, 1);
        Due.fraction("35: the other way round", map, map.area(0, 3), 12, 1);
        Due.with("35: 2", map, map.area(0, 2), false, 1);
        Due.with("35: 21", map, map.area(0, 21), false, 1);
        Due.with("35: no such", map, map.area(4, 3), false, 1);
        map.tray(1, 3, 3);
        Due.with("35: too few", map, map.area(1, 4), false, 3);
        Due.fraction("35: a point", map, map.area(1, 3), 0, 1);
        map.write(1, 2, 4);
        Due.with("35: no place", map, map.area(1, 3), false, 5);
        map.write(1, 2, 1L << 32);
        Due.with("35: no place at all", map, map.area(1, 3), false, 5);
        map.write(1, 2, -1);
        Due.with("35: below", map, map.area(1, 3), false, 5);
        PacedMap apart = mapOf(APART);
        apart.tray(0, 2, 3);
        apart.write(0, 1, 1);
        apart.write(0, 2, 2);
        Due.fraction("35: one", apart, apart.area(0, 3), 1, 1);
        apart.tell(1, 0, 1);
        Due.fraction("35: a half", apart, apart.area(0, 3), 1, 2);
        apart.write(0, 0, 3);
        Due.with("35: nowhere", apart, apart.area(0, 3), false, 6);
        apart.write(0, 2, 5);
        Due.with("35: no place ahead of nowhere", apart, apart.area(0, 3), false, 5);
        Due.is("35: the fraction stays", apart.bottom(), 2);
    }

    private static void p36and37() {
        // A row a-b-c-d and a second leg between b and c.
        PacedMap map = mapOf("place a;place b;place c;place d;walker u;leg u c d east 1 north 0;"
            + "leg u b c east 1 north 0;leg u b c east 1 north 0;leg u a b east 1 north 0;");
        Due.with("36: now", map, map.game(0), 4, 0);
        Due.with("36: a is parted", map, map.game(1), 1, 0);
        Due.with("37: by leg 3", map, map.moveOf(1), 3, 0);
        Due.with("36: and joined again", map, map.game(2), 4, 0);
        Due.with("37: all are as good", map, map.moveOf(2), 0, 0);
        Due.with("36: parted at last", map, map.game(3), 1, 0);
        Due.with("37: by leg 0 first, leg 3 last", map, map.moveOf(3), 0, 0);
        // Of leg 0 and leg 3 both cannot be struck and one be restored without a loss: d or b, c, d.
        Due.with("36: the last restores leg 3", map, map.game(4), 4, 0);
        map.strike(1);
        Due.with("36: those struck may be restored", map, map.game(2), 4, 0);
        map.strike(3);
        Due.with("36: a alone", map, map.game(1), 1, 0);
        Due.with("37: nothing is better, yet it comes last", map, map.moveOf(1), 0, 0);
        // Struck are 1 and 3; leg 2 goes too, and then leg 3 comes back: a, b.
        Due.with("36: two turns", map, map.game(2), 2, 0);
        Due.with("37: two turns", map, map.moveOf(2), 2, 0);
        Due.is("36: nothing changes", map.told(7), 10);
        map.strike(0);
        map.strike(2);
        Due.with("37: nothing left", map, map.moveOf(3), -1, 6);
        Due.with("36: nothing left", map, map.game(3), 1, 0);
        Due.with("37: 0", map, map.moveOf(0), -1, 1);
        Due.with("37: 5", map, map.moveOf(5), -1, 1);
        Due.with("36: 5", map, map.game(5), -1, 1);
        Due.with("36: -1", map, map.game(-1), -1, 1);
    }

    private static void p38() {
        PacedMap map = mapOf(TOWN);
        Due.fraction("38: none of none", map, map.misread(0, 0), 1, 1);
        Due.fraction("38: one of none", map, map.misread(0, 1), 0, 1);
        Due.fraction("38: one of one", map, map.misread(1, 1), 1, 4);
        Due.fraction("38: two of three", map, map.misread(3, 2), 5, 32);
        Due.fraction("38: twelve of twelve", map, map.misread(12, 12), 1, 1L << 24);
        map.rule(1);
        Due.fraction("38: by one sixteenth", map, map.misread(12, 12), 1, 1L << 48);
        Due.fraction("38: one and more", map, map.misread(12, 1), 281474976710656L - 129746337890625L, 281474976710656L);
        map.rule(16);
        Due.fraction("38: all", map, map.misread(12, 12), 1, 1);
        map.rule(0);
        Due.fraction("38: none", map, map.misread(12, 1), 0, 1);
        Due.with("38: n 13", map, map.misread(13, 0), false, 1);
        Due.with("38: n -1", map, map.misread(-1, 0), false, 1);
        Due.with("38: k 13", map, map.misread(0, 13), false, 1);
        Due.with("38: k -1", map, map.misread(0, -1), false, 1);
    }

    private static void p39() {
        PacedMap map = mapOf(TOWN);
        Due.fraction("39: u, 9 of 31", map, map.share(0), 9, 31);
        Due.fraction("39: v, 12 of 31", map, map.share(1), 12, 31);
        Due.fraction("39: w, 10 of 31", map, map.share(2), 10, 31);
        map.strike(3);
        Due.fraction("39: u, 4 of 26", map, map.share(0), 2, 13);
        map.strike(0);
        Due.fraction("39: nothing", map, map.share(0), 0, 1);
        Due.with("39: no such", map, map.share(3), false, 1);
        Due.with("39: below", map, map.share(-1), false, 1);
        map.strike(1);
        map.strike(2);
        map.tell(4, 0, 0);
        Due.with("39: no yards", map, map.share(1), false, 6);
    }

    private static void p40() {
        PacedMap map = mapOf(TOWN);
        Due.with("40: missing", map, map.copyPlaces(0), -1, 2);
        Due.with("40: no such", map, map.copyPlaces(4), -1, 1);
        Due.with("40: below", map, map.copyPlaces(-1), -1, 1);
        map.tray(0, 2, 7);
        Due.with("40: too few", map, map.copyPlaces(0), -1, 3);
        map.tray(0, 0, 9);
        map.write(0, 8, 77);
        Due.with("40: four", map, map.copyPlaces(0), 4, 0);
        long[] wants = {0, 0, 4, 0, 4, 6, 0, 5, 77};
        for (int i = 0; i < 9; i++) {
            Due.with("40: number " + i, map, map.read(0, i), wants[i], 0);
        }
        map.believe(0, 16);
        map.tell(0, 99, 0);
        map.copyPlaces(0);
        Due.with("40: cut to its sort", map, map.read(0, 2), 297 - 256, 0);
        map.strike(3);
        map.strike(4);
        Due.with("40: nowhere", map, map.copyPlaces(0), -1, 6);
        map.tray(1, 0, 3);
        Due.with("40: too few ahead of nowhere", map, map.copyPlaces(1), -1, 3);
        PacedMap none = new PacedMap();
        none.tray(0, 0, 0);
        Due.with("40: no places", none, none.copyPlaces(0), 0, 0);
    }

    /** Lives days in a new town: how many steps, and then missed, went, struck, restored, left. */
    private static PacedMap lived(String town, String days, int seed, int steps, int... counts) {
        PacedMap map = mapOf(town);
        Due.with("41: days " + days, map, Due.days(map, days) >= 0, true, 0);
        Due.with("41: " + days, map, map.live(seed), steps, 0);
        for (int i = 0; i < counts.length; i++) {
            Due.with("42: " + i + " of " + days, map, map.lived(i), counts[i], 0);
        }
        return map;
    }

    private static void p41() {
        PacedMap map = lived(TOWN, "go 0;go 1;go 3;go 2;strike 2;strike 2;restore 3;go 2;restore 2;strike 11;restore 11;go 11;",
            0, 12, 7, 3, 1, 1, 0);
        Due.is("41: where one stands", map.told(4), 0);
        Due.is("41: gone", map.told(5), 20);
        Due.is("41: none struck", map.told(7), 0);
        lived(TOWN, "", 0, 0, 0, 0, 0, 0, 0);
        lived(TOWN, "go 0;stop;go 1;", 0, 2, 0, 1, 0, 0, 0);
        lived(TOWN, "loop 3;go 0;end;", 0, 4, 0, 3, 0, 0, 0);
        lived(TOWN, "loop 3;loop 2;go 0;end;go 3;go 3;end;", 0, 1 + 3 * 5, 0, 12, 0, 0, 0);
        lived(TOWN, "loop 99;loop 99;end;end;strike 0;", 0, 101, 0, 0, 1, 0, 0);
        lived(TOWN, "loop 99;go 0;go 0;end;go 0;", 0, 200, 0, 199, 0, 0, 0);
        lived(TOWN, "loop 99;go 0;go 0;go 0;end;", 0, 298, 0, 297, 0, 0, 0);
        lived(TOWN, "loop 99;go 0;go 0;go 0;end;go 0;go 0;", 0, 300, 0, 299, 0, 0, 0);
        lived(TOWN, "loop 99;go 0;go 0;go 0;end;go 0;stop;go 0;", 0, 300, 0, 298, 0, 0, 0);
        lived(TOWN, "loop 99;go 0;go 0;go 0;end;go 0;go 0;stop;", 0, 300, 0, 299, 0, 0, 1);
        lived(TOWN, "loop 99;go 0;go 0;go 0;end;go 0;loop 99;end;", 0, 300, 0, 298, 0, 0, 0);
        lived(TOWN, "loop 99;go 0;go 0;go 0;end;go 0;when at c;go 0;end;", 0, 300, 0, 298, 0, 0, 0);
        lived(TOWN, "loop 99;loop 99;go 0;end;end;", 0, 300, 0, 296, 0, 0, 1);
        PacedMap told = lived(TOWN, "believe u 8;believe u 8;go 0;believe w 0;believe w 12;", 0, 5, 1, 1, 0, 0, 0);
        Due.is("41: 8 yards by the new stride", told.told(5), 8);
        Due.is("41: stays believed", told.walker(0, 3), 8);
        Due.with("41: again, from how all is now", told, told.live(0), 5, 0);
        Due.is("41: believed already", told.lived(0), 2);
        Due.with("41: seed 10,000", told, told.live(10000), -1, 1);
        Due.with("41: seed -1", told, told.live(-1), -1, 1);
        Due.with("41: seed 9,999", told, told.live(9999), 5, 0);
    }

    private static void p41tests() {
        lived(TOWN, "when at a;go 0;end;when at a;go 0;end;when at b;go 1;end;", 0, 5, 0, 2, 0, 0, 0);
        lived(TOWN, "when closed;strike 0;end;strike 4;when closed;go 0;end;", 0, 4, 0, 1, 1, 0, 0);
        lived(TOWN, "when misses 4;go 0;end;when misses 3;go 0;end;when misses 11;go 0;end;strike 4;when misses 4;go 0;end;",
            0, 6, 0, 1, 1, 0, 0);
        lived(APART, "when misses 3;go 0;end;when closed;go 0;end;", 0, 2, 0, 0, 0, 0, 0);
        lived(TOWN, "when paces = 0;go 0;end;when paces < 4;go 0;end;when paces > 4;go 0;end;when paces = 4;go 0;end;", 0, 6, 0, 2, 0, 0, 0);
        lived(TOWN, "go 0;when paces < 5;go 0;end;when paces > 7;go 0;end;", 0, 5, 0, 3, 0, 0, 0);
        lived(TOWN, "loop 4;when at a;go 0;go 1;end;when at c;go 2;stop;end;end;go 0;", 0, 7, 0, 3, 0, 0, 0);
    }

    private static void p41any() {
        lived("place a;place b;walker u;", "any;any;", 5, 2, 2, 0, 0, 0, 0);
        // By seed 0: s is 11505, then 11505 * 3277 + 11505 = 37713390, whose rest by 65536 is 30190, so the
        // draws by 5 and by 16 are 1438 by 5: 3, and 3773 by 16: 13. With 4 odds one goes along leg 3.
        PacedMap map = lived(TOWN, "any;", 0, 1, 0, 1, 0, 0, 0);
        Due.is("41: at d", map.told(4), 3);
        PacedMap odds = mapOf(TOWN);
        odds.rule(14);
        Due.days(odds, "any;");
        odds.live(0);
        Due.is("41: 13 is below 14", odds.told(7), 8);
        odds.live(0);
        Due.is("41: restored", odds.told(7), 0);
        Due.is("41: one restored", odds.lived(3), 1);
        odds.rule(13);
        odds.strike(3);
        odds.live(0);
        Due.is("41: 13 is not below 13: one goes, but it is struck", odds.lived(0), 1);
        Due.is("41: no draws are kept", odds.told(4), 0);
    }

    private static void p42() {
        PacedMap map = mapOf(TOWN);
        Due.with("42: none yet", map, map.lived(0), -1, 6);
        Due.with("42: what 5 first", map, map.lived(5), -1, 1);
        Due.days(map, "strike 0;strike 0;");
        map.mark();
        map.mean(0, 3);
        Due.with("42: mean() is none", map, map.lived(2), -1, 6);
        map.live(0);
        Due.with("42: struck", map, map.lived(2), 1, 0);
        map.undo();
        map.mean(0, 3);
        map.live(-1);
        Due.town(map, "place x;");
        map.live(0);
        Due.with("42: whatever came behind it", map, map.lived(0), 1, 0);
        Due.with("42: what -1", map, map.lived(-1), -1, 1);
        Due.with("42: what 5", map, map.lived(5), -1, 1);
    }

    private static void p43() {
        PacedMap map = mapOf(TOWN);
        Due.with("43: no DAYS", map, map.mean(0, 1), false, 6);
        Due.days(map, "strike 3;strike 4;go 0;believe u 5;");
        Due.fraction("43: three", map, map.mean(0, 20), 3, 1);
        Due.is("43: nothing is struck", map.told(7), 0);
        Due.is("43: none gone", map.told(5), 0);
        Due.is("43: believed as ahead", map.walker(0, 3), 0);
        Due.with("43: many 0", map, map.mean(0, 0), false, 1);
        Due.with("43: many 21", map, map.mean(0, 21), false, 1);
        Due.with("43: seed -1", map, map.mean(-1, 1), false, 1);
        Due.with("43: beyond 9,999", map, map.mean(9999, 2), false, 1);
        Due.with("43: to 9,999", map, map.mean(9980, 20), true, 0);
        Due.with("43: from 9,999", map, map.mean(9999, 1), true, 0);
        Due.with("43: seed 10,000", map, map.mean(Integer.MAX_VALUE, 20), false, 1);
        // One leg alone: it is struck if the second draw by 16 is below the odds.
        PacedMap one = mapOf("odds 8;place a;place b;walker u;leg u a b east 1 north 0;");
        Due.days(one, "any;");
        long lying = 0;
        for (int seed = 40; seed < 47; seed++) {
            int s = (seed * 3277 + 11505) % 65536;
            s = (s * 3277 + 11505) % 65536;
            lying += s / 8 % 16 < 8 ? 1 : 2;
        }
        one.mean(40, 7);
        Due.is("43: the mean of seven", one.top() * 7, lying * one.bottom());
    }

    private static void p44and45() {
        PacedMap map = mapOf(TOWN);
        map.tray(0, 0, 1);
        Due.days(map, "go 0;");
        Due.with("44: one", map, map.mark(), 1, 0);
        Consumer<PacedMap> change = m -> {
            m.strike(2);
            m.believe(1, 9);
            m.rule(11);
            m.tell(0, 9, 9);
            m.go(3);
            m.pace(0, 0, 1, 5, 5);
        };
        change.accept(map);
        map.settle();
        Due.with("44: two", map, map.mark(), 2, 0);
        Due.town(map, "place x;place y;");
        Due.with("44: three", map, map.mark(), 3, 0);
        Due.with("44: a fourth", map, map.mark(), -1, 4);
        map.write(0, 0, 5);
        map.misread(1, 1);
        Due.with("45: two left", map, map.undo(), 2, 0);
        Due.is("45: the new town", map.told(0), 2);
        Due.with("45: without DAYS", map, map.live(0), -1, 6);
        Due.with("45: one left", map, map.undo(), 1, 0);
        Due.is("45: places", map.told(0), 5);
        Due.is("45: legs", map.told(2), 6);
        Due.is("45: struck", map.told(7), 4);
        Due.is("45: odds", map.told(3), 11);
        Due.is("45: stands", map.told(4), 3);
        Due.is("45: gone", map.told(5), 5);
        Due.is("45: told anew", map.leg(0, 4), 9);
        Due.is("45: believed", map.walker(1, 3), 9);
        Due.with("45: none left", map, map.undo(), 0, 0);
        Due.is("45: first legs", map.told(2), 5);
        Due.is("45: first struck", map.told(7), 0);
        Due.is("45: first odds", map.told(3), 4);
        Due.is("45: first stand", map.told(4), 0);
        Due.is("45: first gone", map.told(5), 0);
        Due.is("45: first leg", map.leg(0, 3), 4);
        Due.is("45: first belief", map.walker(1, 3), 1);
        Due.with("45: the DAYS", map, map.live(0), 1, 0);
        Due.with("45: the names", map, Due.days(map, "when at d;believe w 1;end;"), 2, 0);
        Due.with("45: trays stay", map, map.read(0, 0), 5, 0);
        Due.is("45: the fraction stays", map.bottom(), 8);
        Due.with("45: no more", map, map.undo(), -1, 6);
    }
}
