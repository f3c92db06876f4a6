import java.nio.charset.StandardCharsets;

/** A TOWN's TEXT (promises 1, 9, 10, 12): each sentence that names a boundary has a test of its own, told above it. */
public final class EdgesOfTownTest {
    private static final String SEVEN = "place a;place b;place c;place d;place e;place f;place g;";
    private static final String FOUR = "walker u;walker v;walker w;walker x;";
    private static final String LEG = "leg u a b east 1 north 1;";
    /** Two places and a walker, by whom a leg can be told. */
    private static final String TWO = "place a;place b;walker u;";
    private static final String[] RESERVED = {
        "odds", "place", "walker", "turned", "left", "stride", "leg", "east", "west", "north", "south", "go", "strike",
        "restore", "believe", "any", "when", "at", "closed", "misses", "paces", "loop", "end", "stop"
    };

    public static void main(String[] args) {
        aNewObject();
        statusOfTheLatestCall();
        feedTwentyBytes();
        feedToNineHundred();
        feedHasNoStatus();
        townOfTheFirstBytes();
        townBelowZeroOrMoreThanTheTape();
        townOfNothing();
        townOfNineHundredBytes();
        theTapeIsEmptyThen();
        theOldOneStays();
        inPlaceOfThatAhead();
        tokensAsLongAsTheyGo();
        blanksAreTenAndThirtyTwo();
        wordsAreSmallLetters();
        numbersOfOneToFourDigits();
        theFourSigns();
        bytesThatAreNoToken();
        partsOfAnyNumber();
        oddsZeroToSixteen();
        turnedZeroToThree();
        leftOrNot();
        strideOneToThree();
        turnedLeftStrideInThisOrder();
        pacesZeroToNinetyNine();
        eastOrWestNorthOrSouth();
        namesOfOneToEightLetters();
        namesAreNoneOfTheWords();
        oneNameIsOfOneThingAlone();
        numberedAsTheyStand();
        namedMustBeToldAhead();
        placesAtMostSeven();
        walkersAtMostFour();
        legsAtMostTwelve();
        standing();
        theEndIsTheTextsLength();
        oddsToldAlready();
        legFromAPlaceToItself();
        ofOneTokenTheLeastKind();
        theFirstAlongTheText();
        faultOfTheLatest();
        Due.end("EdgesOfTownTest");
    }

    private static PacedMap mapOf(String town, int legs) {
        PacedMap map = new PacedMap();
        Due.with("10: " + town, map, Due.town(map, town), legs, 0);
        Due.is("12: no fault of " + town, map.fault(0), 0);
        Due.is("12: nowhere of " + town, map.fault(1), -1);
        return map;
    }

    private static void fault(String text, int kind, int place) {
        fault(text.getBytes(StandardCharsets.ISO_8859_1), kind, place);
    }

    private static void fault(byte[] text, int kind, int place) {
        PacedMap map = new PacedMap();
        String told = new String(text, StandardCharsets.ISO_8859_1);
        Due.with("10: " + told, map, map.town(Due.feed(map, text)), -1, 9);
        Due.is("12: FAULT of " + told, map.fault(0), kind);
        Due.is("12: its place of " + told, map.fault(1), place);
    }

    /** "A TOWN of nothing; ODDS 2; one stands nowhere; no DAYS, MARKS; .. an empty tape; the FRACTION 0 by 1; STATUS 0." */
    private static void aNewObject() {
        PacedMap map = new PacedMap();
        Due.is("1: STATUS", map.status(), 0);
        Due.is("1: top", map.top(), 0);
        Due.is("1: bottom", map.bottom(), 1);
        Due.is("1: no FAULT told", map.fault(0), -1);
        Due.is("1: nor its place", map.fault(1), -1);
        long[] wants = {0, 0, 0, 2, -1, 0, 0, 0, 0, 0, 0, 1};
        for (int what = 0; what < 12; what++) {
            Due.with("1: told(" + what + ")", map, map.told(what), wants[what], what == 4 ? 6 : 0);
        }
        Due.is("1: an empty tape", map.feed(0, 0, 0, 0, 0), 20);
        Seen.alike("1: as one by a TOWN of nothing", Seen.begun(m -> { }), Seen.begun(m -> m.town(0)), false);
    }

    /** "STATUS of the latest call that has one." */
    private static void statusOfTheLatestCall() {
        PacedMap map = new PacedMap();
        map.read(0, 0);
        Due.is("2: 2", map.status(), 2);
        Due.is("2: 2, as status() has none", map.status(), 2);
        map.top();
        map.bottom();
        map.fault(0);
        map.fault(9);
        map.feed(0, 0, 0, 0, 0);
        Due.is("2: 2, as these have none", map.status(), 2);
        map.told(99);
        Due.is("2: 1", map.status(), 1);
        map.told(0);
        Due.is("2: 0", map.status(), 0);
    }

    /** "Twenty bytes come behind those on the tape, the highest of each int first: how many it has". */
    private static void feedTwentyBytes() {
        PacedMap map = new PacedMap();
        // "place a;place b;plac" and "e c;walker u;        "
        Due.is("9: 20", map.feed(0x706c6163, 0x6520613b, 0x706c6163, 0x6520623b, 0x706c6163), 20);
        Due.is("9: 40", map.feed(0x6520633b, 0x77616c6b, 0x65722075, 0x3b202020, 0x20202020), 40);
        Due.with("9: behind", map, map.town(40), 0, 0);
        Due.is("9: three places", map.told(0), 3);
        Due.is("9: a walker", map.told(1), 1);
        for (int place = 0; place < 20; place++) {
            byte[] text = " ".repeat(20).getBytes(StandardCharsets.ISO_8859_1);
            text[place] = '#';
            fault(text, 1, place);
            text[place] = (byte) 0xff;
            fault(text, 1, place);
        }
    }

    /** "NONE if there would be more than 900": 45 times twenty are taken, once more is not; nothing comes. */
    private static void feedToNineHundred() {
        PacedMap map = new PacedMap();
        for (int i = 1; i <= 45; i++) {
            Due.is("9: feed " + i, map.feed(0x20202020, 0x20202020, 0x20202020, 0x20202020, 0x20202020), 20 * i);
        }
        Due.is("9: a 46th", map.feed(0x23232323, 0x23232323, 0x23232323, 0x23232323, 0x23232323), -1);
        Due.is("9: a 47th", map.feed(0x23232323, 0x23232323, 0x23232323, 0x23232323, 0x23232323), -1);
        Due.with("9: 901", map, map.town(901), -1, 1);
        Due.with("9: 900 blanks", map, map.town(900), 0, 0);
        Due.is("9: empty then", map.feed(0, 0, 0, 0, 0), 20);
        Seen.Start full = m -> {
            Seen.rich(m);
            m.town(0);
            Due.feed(m, " ".repeat(900));
            m.read(3, 0);
        };
        PacedMap fed = Seen.begun(full);
        Due.is("9: NONE", fed.feed(1, 2, 3, 4, 5), -1);
        Due.is("9: no STATUS of it", fed.status(), 2);
        Seen.alike("9: nothing else", fed, Seen.begun(full), true);
    }

    /** "status(), top(), bottom(), feed(), fault() have none." */
    private static void feedHasNoStatus() {
        PacedMap map = new PacedMap();
        map.told(-1);
        map.feed(0, 0, 0, 0, 0);
        Due.is("9: 1 stays", map.status(), 1);
    }

    /** "The first n bytes of the tape .. are the TOWN: how many LEGS": one byte less is another text. */
    private static void townOfTheFirstBytes() {
        String text = TWO + LEG + LEG + "#";
        PacedMap map = new PacedMap();
        Due.feed(map, text);
        Due.with("10: two legs, not the sign behind", map, map.town(text.length() - 1), 2, 0);
        Due.feed(map, text);
        Due.with("10: the sign, too", map, map.town(text.length()), -1, 9);
        Due.is("10: at its place", map.fault(1), text.length() - 1);
        Due.feed(map, text);
        Due.with("10: without the last ;", map, map.town(text.length() - 2), -1, 9);
        Due.is("10: the end is missing it", map.fault(1), text.length() - 2);
        Due.feed(map, text);
        Due.with("10: without legs", map, map.town(TWO.length()), 0, 0);
    }

    /** "(1: n below 0, or more than the tape has, too ..)": the tape stays. */
    private static void townBelowZeroOrMoreThanTheTape() {
        for (int n : new int[] {-1, 41, 60, 900, 901, Integer.MIN_VALUE, Integer.MAX_VALUE}) {
            Seen.refused("10: " + n + " of 40", Seen::rich, map -> map.town(n), 1);
        }
        PacedMap map = new PacedMap();
        Due.feed(map, "place a;place b;    ");
        Due.with("10: 21 of 20", map, map.town(21), -1, 1);
        Due.with("10: 20 of 20", map, map.town(20), 0, 0);
        Due.is("10: two places", map.told(0), 2);
        Due.with("10: 1 of none", map, map.town(1), -1, 1);
    }

    /** {PART}: none; town(0) takes a TOWN of nothing and the tape away. */
    private static void townOfNothing() {
        PacedMap map = Seen.begun(Seen::rich);
        Due.with("10: of nothing", map, map.town(0), 0, 0);
        long[] wants = {0, 0, 0, 2, -1, 0, 0, 0, 0, 0, 0, 1};
        for (int what = 0; what < 12; what++) {
            Due.with("10: nothing, told(" + what + ")", map, map.told(what), wants[what], what == 4 ? 6 : 0);
        }
        Due.is("10: the tape is empty", map.feed(0, 0, 0, 0, 0), 20);
        mapOf(" ", 0);
        mapOf("\n \n", 0);
    }

    /** "A TOWN is a TEXT of at most 900 bytes": the 900th counts. */
    private static void townOfNineHundredBytes() {
        String most = SEVEN + FOUR + LEG.repeat(12);
        String blanks = " ".repeat(892 - most.length());
        PacedMap map = mapOf(blanks + most + "odds 10;", 12);
        Due.is("10: 900 bytes", map.told(3), 10);
        fault(blanks + most + "odds 10#", 1, 899);
        fault(blanks + most + "odds 100", 4, 897);
        fault(blanks + most + "odds 10 ", 2, 900);
        fault(" ".repeat(899) + "a", 2, 899);
        fault("a".repeat(900), 2, 0);
        fault("1".repeat(900), 1, 0);
        fault("#".repeat(900), 1, 0);
        fault(" ".repeat(898) + "12", 2, 898);
    }

    /** "the tape (which is empty then)": with STATUS 0 and 9, whatever was left of it. */
    private static void theTapeIsEmptyThen() {
        PacedMap map = new PacedMap();
        Due.feed(map, "place a;place b;    ");
        map.town(8);
        Due.with("10: what was left is gone", map, map.town(1), -1, 1);
        Due.is("10: it begins anew", map.feed(0x706c6163, 0x6520633b, 0x20202020, 0x20202020, 0x20202020), 20);
        Due.with("10: only that", map, map.town(20), 0, 0);
        Due.is("10: one place", map.told(0), 1);
        Due.feed(map, "place a;place b;    ");
        Due.with("10: a fault", map, map.town(3), -1, 9);
        Due.with("10: what was left is gone by it, too", map, map.town(1), -1, 1);
        Due.is("10: begins anew by it, too", map.feed(0, 0, 0, 0, 0), 20);
    }

    /** "9: the old one stays": but for the tape and what fault() tells. */
    private static void theOldOneStays() {
        String[] texts = {"#", "odds", "odds 16;place z;walker y;place z;", "odds 17;", "odds 1;odds 1;", SEVEN + "place h;"};
        for (String text : texts) {
            Seen.Start start = map -> {
                Seen.rich(map);
                map.days(0);
                Due.days(map, "go 0;any;when at b;strike 1;end;any;");
                Due.feed(map, text);
            };
            Seen.refused("10: " + text, start, map -> map.town(text.length()), 9);
        }
    }

    /**
     * "A TOWN that is taken is there in place of that ahead; no LEG is STRUCK, one stands at PLACE 0 .., no YARDS were
     * gone; there are no DAYS." MARKS, TRAYS, the FRACTION, lived() stay.
     */
    private static void inPlaceOfThatAhead() {
        PacedMap map = Seen.begun(Seen::rich);
        map.go(0);
        long top = map.top();
        map.town(0);
        Due.with("10: in place", map, Due.town(map, "odds 9;place x;place y;walker z left;leg z x y east 1 north 2;"), 1, 0);
        long[] wants = {2, 1, 1, 9, 0, 0, 3, 0, 0, 1, 0, 1};
        for (int what = 0; what < 12; what++) {
            Due.with("10: new, told(" + what + ")", map, map.told(what), wants[what], 0);
        }
        Due.with("10: no DAYS", map, map.live(0), -1, 6);
        Due.with("10: no DAYS to mean", map, map.mean(0, 1), false, 6);
        Due.with("10: the old names are gone", map, Due.days(map, "when at a;end;"), -1, 9);
        Due.with("10: the new ones are there", map, Due.days(map, "when at y;believe z 0;end;"), 2, 0);
        Due.with("10: TRAYS stay", map, map.read(1, 7), -77777, 0);
        Due.is("10: the FRACTION stays", map.top(), top);
        Due.with("10: lived() stays", map, map.lived(0) >= 0, true, 0);
        Due.with("10: MARKS stay", map, map.undo(), 1, 0);
        Due.is("10: all is back", map.told(0), 4);
        Due.is("10: struck again", map.told(7) & 16, 16);
        map.town(0);
        Due.with("10: ODDS without", map, Due.town(map, "place x;"), 0, 0);
        Due.is("10: 2, not those ahead", map.told(3), 2);
    }

    /** "TOKENS, as long as they go". */
    private static void tokensAsLongAsTheyGo() {
        PacedMap map = mapOf("odds4;place a;", 0);
        Due.is("10: 4", map.told(3), 4);
        mapOf("walker u turned3left stride2;", 0);
        fault("placea;", 2, 0);
        fault("odds 1 6;", 2, 7);
        fault("place a b;", 2, 8);
        fault("oddsa 4;", 2, 0);
        fault("walker u leftstride 1;", 2, 9);
        PacedMap six = mapOf("odds 16;", 0);
        Due.is("10: 16, not 1", six.told(3), 16);
        mapOf("place ab;place a;place b;", 0);
    }

    /** "between them blanks (10, 32)": no other byte, and any number of them. */
    private static void blanksAreTenAndThirtyTwo() {
        for (int b = 0; b < 128; b++) {
            byte[] text = ("odds " + (char) b + " 3;").getBytes(StandardCharsets.ISO_8859_1);
            boolean letter = b >= 'a' && b <= 'z';
            boolean sign = b == ';' || b == '<' || b == '=' || b == '>';
            if (b == 10 || b == 32) {
                PacedMap map = new PacedMap();
                Due.with("10: blank " + b, map, map.town(Due.feed(map, text)), 0, 0);
            } else if (b >= '0' && b <= '9') {
                fault(text, 2, 7);
            } else {
                fault(text, letter || sign ? 2 : 1, 5);
            }
        }
        mapOf("\n\n  \n", 0);
        mapOf("  odds \n\n  3 \n;  ", 0);
    }

    /** "WORDS (small letters)": a to z, not the signs next to them, not capitals. */
    private static void wordsAreSmallLetters() {
        for (char c = 'a'; c <= 'z'; c++) {
            mapOf("place " + c + ";place " + c + c + ";", 0);
        }
        for (char c : new char[] {'`', '{', 'A', 'Z', '@', '['}) {
            fault("place " + c + ";", 1, 6);
            fault("place a" + c + ";", 1, 7);
        }
        fault("Odds 1;", 1, 0);
    }

    /** "NUMBERS (1 to 4 digits)": 0 to 9; a fifth digit makes it none, at its first. */
    private static void numbersOfOneToFourDigits() {
        for (int digit = 0; digit < 10; digit++) {
            Due.is("10: " + digit, mapOf("odds " + digit + ";", 0).told(3), digit);
        }
        for (String zeros : new String[] {"", "0", "00", "000"}) {
            Due.is("10: 7 behind " + zeros, mapOf("odds " + zeros + "7;", 0).told(3), 7);
        }
        fault("odds 00007;", 1, 5);
        fault("odds 00000;", 1, 5);
        fault("odds 0000;odds 0;", 5, 10);
        fault("odds 9999;", 4, 5);
        fault("odds 99999;", 1, 5);
        fault("odds 4294967296;", 1, 5);
        fault("odds 18446744073709551616;", 1, 5);
        fault("odds /;", 1, 5);
        fault("odds :;", 1, 5);
        fault("odds -1;", 1, 5);
        fault("odds 1.5;", 1, 6);
    }

    /** "SIGNS ; < > =": they are TOKENS, those next to them are none. */
    private static void theFourSigns() {
        for (char c : new char[] {'<', '>', '='}) {
            fault("odds 3" + c, 2, 6);
            fault("" + c, 2, 0);
        }
        fault(";", 2, 0);
        fault("odds 3;;", 2, 7);
        for (char c : new char[] {':', '?', ',', '.'}) {
            fault("odds 3" + c, 1, 6);
        }
    }

    /** "1 no TOKEN begins so": each byte from 128 on, too. */
    private static void bytesThatAreNoToken() {
        for (int b = 128; b < 256; b++) {
            byte[] text = {'o', 'd', 'd', 's', ' ', '1', ';', ' ', (byte) b};
            fault(text, 1, 8);
        }
        fault("\t", 1, 0);
        fault("\r\n", 1, 0);
        fault("\0", 1, 0);
    }

    /** "TOWN: {PART}": one, two, as many as there can be, in any order as long as names are told ahead. */
    private static void partsOfAnyNumber() {
        mapOf("place a;", 0);
        mapOf("walker u;", 0);
        mapOf("odds 0;", 0);
        mapOf("walker u;place b;odds 3;place a;leg u a b east 0 north 0;place c;walker v;leg v c a west 1 south 1;", 2);
        mapOf(SEVEN + FOUR + LEG.repeat(12) + "odds 1;", 12);
    }

    /** "ODDS (0 to 16; 2 without)", "4 a NUMBER that can't be". */
    private static void oddsZeroToSixteen() {
        for (int odds = 0; odds <= 16; odds++) {
            Due.is("10: ODDS " + odds, mapOf("odds " + odds + ";", 0).told(3), odds);
        }
        fault("odds 17;", 4, 5);
        fault("odds 9999;", 4, 5);
        Due.is("10: 2 without", mapOf("place a;", 0).told(3), 2);
    }

    /** "TURNED by quarters (0 to 3; 0 without)". */
    private static void turnedZeroToThree() {
        for (int turned = 0; turned <= 3; turned++) {
            PacedMap map = mapOf("walker u turned " + turned + ";", 0);
            Due.is("14: TURNED", map.walker(0, 0), turned);
            Due.is("14: not LEFT", map.walker(0, 1), 0);
            Due.is("14: STRIDE 1", map.walker(0, 2), 1);
            Due.is("14: FAULT", map.walker(0, 3), turned);
        }
        fault("walker u turned 4;", 4, 16);
        fault("walker u turned 9999;", 4, 16);
        Due.is("14: 0 without", mapOf("walker u left stride 3;", 0).walker(0, 0), 0);
    }

    /** "LEFT or not". */
    private static void leftOrNot() {
        Due.is("14: not", mapOf("walker u turned 3 stride 2;", 0).walker(0, 1), 0);
        Due.is("14: LEFT", mapOf("walker u left;", 0).walker(0, 1), 1);
        Due.is("14: FAULT 4", mapOf("walker u left;", 0).walker(0, 3), 4);
    }

    /** "STRIDE (1 to 3; 1 without)". */
    private static void strideOneToThree() {
        for (int stride = 1; stride <= 3; stride++) {
            PacedMap map = mapOf("walker u stride " + stride + ";", 0);
            Due.is("14: STRIDE", map.walker(0, 2), stride);
            Due.is("14: FAULT by it", map.walker(0, 3), 8 * (stride - 1));
        }
        fault("walker u stride 0;", 4, 16);
        fault("walker u stride 4;", 4, 16);
        Due.is("14: 1 without", mapOf("walker u turned 1 left;", 0).walker(0, 2), 1);
    }

    /** "walker NAME [turned NUMBER] [left] [stride NUMBER] ;": each or none, none twice, none ahead of another. */
    private static void turnedLeftStrideInThisOrder() {
        for (int set = 0; set < 8; set++) {
            String told = ((set & 1) != 0 ? " turned 2" : "") + ((set & 2) != 0 ? " left" : "") + ((set & 4) != 0 ? " stride 3" : "");
            Due.is("14: FAULT of" + told, mapOf("walker u" + told + ";", 0).walker(0, 3), (set & 1) * 2 + (set & 2) * 2 + (set & 4) * 4);
        }
        fault("walker u left turned 1;", 2, 14);
        fault("walker u stride 1 left;", 2, 18);
        fault("walker u stride 1 turned 1;", 2, 18);
        fault("walker u left left;", 2, 14);
        fault("walker u turned 1 turned 1;", 2, 18);
        fault("walker u stride 1 stride 1;", 2, 18);
        fault("walker u turned 1 stride 1 left;", 2, 27);
    }

    /** "so many paces (0 to 99)": 100 is a NUMBER that can't be, of each of the four words. */
    private static void pacesZeroToNinetyNine() {
        for (String east : new String[] {"east", "west"}) {
            for (String north : new String[] {"north", "south"}) {
                for (int paces : new int[] {0, 1, 98, 99}) {
                    PacedMap map = mapOf(TWO + "leg u a b " + east + " " + paces + " " + north + " " + (99 - paces) + ";", 1);
                    Due.with("15: told " + east, map, map.leg(0, 3), east.equals("west") ? -paces : paces, 0);
                    Due.with("15: told " + north, map, map.leg(0, 4), north.equals("south") ? paces - 99 : 99 - paces, 0);
                }
                String ahead = TWO + "leg u a b " + east + " ";
                fault(ahead + "100 " + north + " 0;", 4, ahead.length());
                fault(ahead + "99 " + north + " 100;", 4, ahead.length() + 4 + north.length());
                fault(ahead + "9999 " + north + " 0;", 4, ahead.length());
            }
        }
    }

    /** "EAST: east or west. NORTH: north or south." Neither in place of the other one, none left out. */
    private static void eastOrWestNorthOrSouth() {
        String ahead = TWO + "leg u a b ";
        int at = ahead.length();
        fault(ahead + "north 1 east 1;", 2, at);
        fault(ahead + "south 1 west 1;", 2, at);
        fault(ahead + "1 north 1;", 2, at);
        fault(ahead + "east 1 west 1;", 2, at + 7);
        fault(ahead + "west 1 east 1;", 2, at + 7);
        fault(ahead + "east 1;", 2, at + 6);
        fault(ahead + "east north 1;", 2, at + 5);
        fault(ahead + ";", 2, at);
    }

    /** "NAME: a WORD of 1 to 8 letters"; "a WORD of 9 letters and more where a NAME must stand" is 2. */
    private static void namesOfOneToEightLetters() {
        for (int letters = 1; letters <= 8; letters++) {
            String name = "abcdefgh".substring(0, letters);
            PacedMap map = mapOf("place z;place " + name + ";walker x" + name.substring(1) + ";leg x" + name.substring(1)
                + " z " + name + " east 1 north 1;", 1);
            Due.is("10: to it", map.leg(0, 2), 1);
            Due.with("11: known by it", map, Due.days(map, "when at " + name + ";end;"), 1, 0);
        }
        mapOf("place abcdefgh;place abcdefgi;place bbcdefgh;place zzzzzzzz;place aaaaaaaa;place aaaaaaa;", 0);
        fault("place abcdefgh;place abcdefgh;", 3, 21);
        fault("place abcdefghi;", 2, 6);
        fault("walker abcdefghi;", 2, 7);
        fault(TWO + "leg abcdefghi a b east 1 north 1;", 2, TWO.length() + 4);
        fault(TWO + "leg u abcdefghi b east 1 north 1;", 2, TWO.length() + 6);
        fault(TWO + "leg u a abcdefghi east 1 north 1;", 2, TWO.length() + 8);
        fault("place " + "a".repeat(300) + ";", 2, 6);
        // Were only the first eight letters or the last eight looked at, these would be known or taken.
        fault("place abcdefgh;walker u;leg u abcdefghi", 2, 30);
        fault("place abcdefgh;walker u;leg u zabcdefgh", 2, 30);
        fault("place oddsodds;walker u;leg u oddsoddsodds", 2, 30);
    }

    /** "that is none of odds, place, .. stop": each of the 24; those like them are NAMES. */
    private static void namesAreNoneOfTheWords() {
        Due.is("10: 24 words", RESERVED.length, 24);
        for (String word : RESERVED) {
            fault("place " + word + ";", 2, 6);
            fault("walker " + word + ";", 2, 7);
            fault(TWO + "leg " + word, 2, TWO.length() + 4);
            fault(TWO + "leg u " + word, 2, TWO.length() + 6);
            fault(TWO + "leg u a " + word, 2, TWO.length() + 8);
            mapOf("place " + word + "x;place x" + word + ";walker " + word.substring(1) + ";walker "
                + word.substring(0, word.length() - 1) + ";", 0);
        }
    }

    /** "One NAME is of one thing alone": "3 a new NAME that is taken". */
    private static void oneNameIsOfOneThingAlone() {
        fault("place a;place a;", 3, 14);
        fault("place a;walker a;", 3, 15);
        fault("walker a;place a;", 3, 15);
        fault("walker a;walker a;", 3, 16);
        fault("place a;place b;place c;place b;", 3, 30);
        fault("walker u;walker v;place a;place v;", 3, 32);
        fault("place a;walker u;place b;walker a;", 3, 32);
        fault("place a;walker u;place b;walker b;", 3, 32);
        mapOf("place a;place aa;walker aaa;walker b;", 0);
        PacedMap map = mapOf("place a;", 0);
        Due.with("10: of another TOWN it is not", map, Due.town(map, "walker a;place u;"), 0, 0);
    }

    /** "All are numbered as they stand". */
    private static void numberedAsTheyStand() {
        PacedMap map = mapOf("walker v;place c;walker u left;place a;place b;leg u a b east 1 north 2;leg v b c west 3 south 4;", 2);
        long[][] wants = {{1, 1, 2, 1, 2}, {0, 2, 0, -3, -4}};
        for (int leg = 0; leg < 2; leg++) {
            for (int what = 0; what < 5; what++) {
                Due.with("10: leg " + leg + ", " + what, map, map.leg(leg, what), wants[leg][what], 0);
            }
        }
        Due.is("10: the second walker is LEFT", map.walker(1, 1), 1);
        PacedMap full = mapOf(SEVEN + "walker u turned 1;walker v turned 2;walker w turned 3;walker x left stride 3;", 0);
        int[] faults = {1, 2, 3, 20};
        for (int walker = 0; walker < 4; walker++) {
            Due.is("10: FAULT of walker " + walker, full.walker(walker, 3), faults[walker]);
            Due.with("11: his NAME", full, Due.days(full, "believe " + (char) ('u' + walker) + " 23;"), 1, 0);
            full.live(0);
            Due.is("11: it is his", full.walker(walker, 3), 23);
        }
        for (char name = 'a'; name <= 'g'; name++) {
            Due.with("11: NAME " + name, full, Due.days(full, "when at " + name + ";stop;end;"), 2, 0);
            Due.with("11: it is PLACE 0's or not", full, full.live(0), name == 'a' ? 2 : 1, 0);
        }
    }

    /** "who, what is named must be told ahead": "a NAME that is no such one told ahead (a WALKER first .., then PLACES)". */
    private static void namedMustBeToldAhead() {
        fault("leg u a b east 1 north 1;place a;place b;walker u;", 3, 4);
        fault("walker u;leg u a b east 1 north 1;place a;place b;", 3, 15);
        fault("walker u;place a;leg u a b east 1 north 1;place b;", 3, 25);
        fault(TWO + "leg a a b", 3, TWO.length() + 4);
        fault(TWO + "leg z a b", 3, TWO.length() + 4);
        fault(TWO + "leg u u b", 3, TWO.length() + 6);
        fault(TWO + "leg u z b", 3, TWO.length() + 6);
        fault(TWO + "leg u a u", 3, TWO.length() + 8);
        fault(TWO + "leg u a z", 3, TWO.length() + 8);
        fault("place a;place b;leg a", 3, 20);
        PacedMap map = mapOf(TWO, 0);
        Due.with("10: of the TOWN ahead it is not told", map, Due.town(map, "place a;place b;leg u a b east 1 north 1;"), -1, 9);
        Due.is("10: so no such", map.fault(0), 3);
        Due.is("10: behind leg", map.fault(1), 20);
    }

    /** "PLACES, at most 7": "6 an eighth place (at that WORD)". */
    private static void placesAtMostSeven() {
        Due.is("10: six", mapOf(SEVEN.substring(8), 0).told(0), 6);
        Due.is("10: seven", mapOf(SEVEN, 0).told(0), 7);
        fault(SEVEN + "place h;", 6, 56);
        fault(SEVEN + " place a;", 6, 57);
        fault(SEVEN + "place", 6, 56);
        fault(SEVEN + "place#", 6, 56);
        fault(SEVEN + "walker u;place", 6, 65);
    }

    /** "WALKERS, at most 4": "a fifth walker". */
    private static void walkersAtMostFour() {
        Due.is("10: three", mapOf(FOUR.substring(9), 0).told(1), 3);
        Due.is("10: four", mapOf(FOUR, 0).told(1), 4);
        fault(FOUR + "walker y;", 6, 36);
        fault(FOUR + "walker u", 6, 36);
        fault(FOUR + "walker", 6, 36);
        fault(FOUR + "place a;walker 12345", 6, 44);
    }

    /** "LEGS, at most 12": "a 13th leg". */
    private static void legsAtMostTwelve() {
        mapOf(TWO + LEG.repeat(11), 11);
        PacedMap map = mapOf(TWO + LEG.repeat(12), 12);
        Due.is("10: twelve", map.told(2), 12);
        int at = TWO.length() + 12 * LEG.length();
        fault(TWO + LEG.repeat(12) + LEG, 6, at);
        fault(TWO + LEG.repeat(12) + "leg", 6, at);
        fault(TWO + LEG.repeat(12) + "leg z", 6, at);
    }

    /** What each TOKEN comes to behind a row of others: those that may stand go on, all others are 2 (1 if they are none). */
    private static void standing() {
        stands("", "odds place walker leg");
        stands("odds ", "1 0");
        stands("odds 1 ", ";");
        stands("odds 1;", "place walker leg");
        stands("place ", "q abcdefgh");
        stands("place c ", ";");
        stands("walker ", "q abcdefgh");
        stands("walker v ", "turned left stride ;");
        stands("walker v turned ", "1 0");
        stands("walker v turned 1 ", "left stride ;");
        stands("walker v left ", "stride ;");
        stands("walker v turned 1 left ", "stride ;");
        stands("walker v stride ", "1");
        stands("walker v stride 1 ", ";");
        stands("walker v left stride 1 ", ";");
        stands("leg ", "u");
        stands("leg u ", "a b");
        stands("leg u a ", "b");
        stands("leg u a b ", "east west");
        stands("leg u a b east ", "1 0");
        stands("leg u a b west 1 ", "north south");
        stands("leg u a b east 1 north ", "1 0");
        stands("leg u a b east 1 south 1 ", ";");
        stands("leg u a b east 1 south 1;", "odds place walker leg");
    }

    private static void stands(String ahead, String fine) {
        String whole = TWO + ahead;
        int at = whole.length();
        String tokens = String.join(" ", RESERVED) + " a b u q abcdefgh abcdefghi 0 1 17 9999 12345 ; < > = # A";
        for (String token : tokens.split(" ")) {
            if (has(fine, token)) {
                goesOn(whole + token);
                continue;
            }
            char c = token.charAt(0);
            boolean name = c >= 'a' && c <= 'z' && token.length() < 9 && !has(String.join(" ", RESERVED), token);
            boolean number = c >= '0' && c <= '9';
            int kind = 2;
            if (token.equals("12345") || token.equals("#") || token.equals("A")) {
                kind = 1;
            } else if (name && (has(fine, "q") || has(fine, "u") || has(fine, "b"))) {
                kind = ahead.equals("leg u a ") && token.equals("a") ? 5 : 3;
            } else if (number && has(fine, "1")) {
                kind = token.length() < 3 && ahead.contains("leg") ? 0 : 4;
            } else if (token.equals("odds") && ahead.equals("odds 1;")) {
                kind = 5;
            }
            if (kind == 0) {
                goesOn(whole + token);
            } else {
                fault(whole + token + " ", kind, at);
                fault(whole + token + "#", kind, at);
            }
        }
        if (ahead.isEmpty() || ahead.endsWith(";")) {
            mapOf(whole, ahead.startsWith("leg") ? 1 : 0);
        } else {
            fault(whole, 2, at);
        }
    }

    private static boolean has(String tokens, String token) {
        return (" " + tokens + " ").contains(" " + token + " ");
    }

    /** It is taken so far: the sign behind it is the first FAULT. */
    private static void goesOn(String text) {
        fault(text + " #", 1, text.length() + 1);
    }

    /** "2 it can't stand there (the end: the text's length ..)": behind each TOKEN, with blanks, too. */
    private static void theEndIsTheTextsLength() {
        String[] tokens = "odds 3 ; place a ; place b ; walker u turned 1 left stride 2 ; leg u a b east 1 north 2 ;".split(" ");
        StringBuilder text = new StringBuilder();
        for (String token : tokens) {
            text.append(token);
            if (token.equals(";")) {
                mapOf(text.toString(), text.indexOf("leg") < 0 ? 0 : 1);
            } else {
                fault(text.toString(), 2, text.length());
                fault(text + " \n ", 2, text.length() + 3);
            }
            text.append(' ');
        }
    }

    /** "5 odds told already (at that WORD)": wherever the first one stood, even as 2. */
    private static void oddsToldAlready() {
        fault("odds 2;odds 2;", 5, 7);
        fault("odds 2;odds", 5, 7);
        fault("odds 0;place a; odds 1;", 5, 16);
        fault("odds 2;" + TWO + LEG + "odds 17;", 5, 7 + TWO.length() + LEG.length());
        PacedMap map = mapOf("odds 3;", 0);
        Due.with("10: in another TOWN it is not", map, Due.town(map, "odds 4;"), 0, 0);
        Due.is("10: 4", map.told(3), 4);
    }

    /** "a LEG from a PLACE to itself (at the second PLACE's NAME)". */
    private static void legFromAPlaceToItself() {
        fault(TWO + "leg u a a", 5, TWO.length() + 8);
        fault(TWO + "leg u b  b east 1 north 1;", 5, TWO.length() + 9);
        mapOf(TWO + "leg u b a east 1 north 1;leg u a b east 1 north 1;", 2);
    }

    /** "(of one TOKEN the least kind)". */
    private static void ofOneTokenTheLeastKind() {
        // 1 ahead of 2, of 4: a NUMBER of 5 digits where none, where one can stand.
        fault("12345", 1, 0);
        fault("odds 12345", 1, 5);
        fault("place 12345", 1, 6);
        // 2 ahead of 5, of 6: the WORD where it can't stand.
        fault("odds 2 odds", 2, 7);
        fault(SEVEN + "odds place", 2, 61);
        fault(SEVEN + "odds 1 place", 2, 63);
        fault(FOUR + "odds walker", 2, 41);
        fault(TWO + LEG.repeat(12) + "odds leg", 2, TWO.length() + 12 * LEG.length() + 5);
        // 2 ahead of 3, of 4.
        fault("place a;odds a", 2, 13);
        fault("place 17", 2, 6);
        // 3 ahead of 5: no such one told ahead, twice.
        fault(TWO + "leg u z z", 3, TWO.length() + 6);
    }

    /** "FAULTS, the first along the text": by place, whatever the kind. */
    private static void theFirstAlongTheText() {
        fault("odds 17;#", 4, 5);
        fault("odds 1#;odds 17;", 1, 6);
        fault("place a;place a;place", 3, 14);
        fault("odds 1;odds 17;", 5, 7);
        fault(SEVEN + "place a;#", 6, 56);
        fault("odds place a;", 2, 5);
        fault("leg u;#", 3, 4);
        fault(TWO + "leg u a a east 100", 5, TWO.length() + 8);
        fault("walker u turned 4 left stride 0;", 4, 16);
        fault("walker u left stride 0", 4, 21);
    }

    /** "Of the latest town() or days() with STATUS 0 or 9 ..: NONE for others, and ahead of any." */
    private static void faultOfTheLatest() {
        PacedMap map = new PacedMap();
        for (int what : new int[] {0, 1, 2, -1, Integer.MIN_VALUE, Integer.MAX_VALUE}) {
            Due.is("12: ahead of any " + what, map.fault(what), -1);
        }
        map.town(1);
        map.days(-1);
        Due.is("12: ahead of any with 0 or 9", map.fault(0), -1);
        map.town(0);
        Due.is("12: 0 without", map.fault(0), 0);
        Due.is("12: NONE without", map.fault(1), -1);
        Due.town(map, "odds 17;");
        Due.is("12: 4", map.fault(0), 4);
        Due.is("12: at 5", map.fault(1), 5);
        map.town(1);
        map.days(301);
        map.strike(0);
        Due.is("12: STATUS 1 leaves it", map.fault(0), 4);
        Due.is("12: and its place", map.fault(1), 5);
        for (int what : new int[] {2, 3, -1, Integer.MIN_VALUE, Integer.MAX_VALUE}) {
            Due.is("12: others " + what, map.fault(what), -1);
        }
        Due.days(map, "any;end;");
        Due.is("12: of days()", map.fault(0), 2);
        Due.is("12: at 4", map.fault(1), 4);
        map.days(0);
        Due.is("12: none again", map.fault(0), 0);
        Due.is("12: nowhere again", map.fault(1), -1);
        Due.town(map, "#");
        Due.is("12: of town()", map.fault(0), 1);
        Due.is("12: at 0", map.fault(1), 0);
    }
}
