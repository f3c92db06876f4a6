import java.nio.charset.StandardCharsets;

/** DAYS as a TEXT, and lived (promises 11, 41 to 43): each sentence that names a boundary has a test of its own, told above it. */
public final class EdgesOfDaysTest {
    private static final String[] WORDS = {
        "odds", "place", "walker", "turned", "left", "stride", "leg", "east", "west", "north", "south", "go", "strike",
        "restore", "believe", "any", "when", "at", "closed", "misses", "paces", "loop", "end", "stop"
    };
    private static final String STEPS = "go strike restore believe any when loop stop";
    private static final String TWO = "place a;place b;walker u;leg u a b east 1 north 0;";
    /** 12 LEGS: those of an even number from a to b, the others back. */
    private static final String TWELVE = "place a;place b;walker u;" + "leg u a b east 1 north 0;leg u b a west 1 north 0;".repeat(6);

    public static void main(String[] args) {
        daysOfTheFirstBytes();
        daysBelowZeroOrMoreThanTheTape();
        daysAboveThreeHundred();
        daysOfThreeHundredBytes();
        daysOfNothing();
        theOldOnesStay();
        inPlaceOfThoseAhead();
        tokensOfDays();
        numbersOfDays();
        namesOfDays();
        comparesOfDays();
        standing();
        theEndIsTheTextsLength();
        anEndWithoutABeginning();
        stepsAtMostThirty();
        withinThreeOthers();
        ofOneTokenTheLeastKind();
        theFirstAlongTheText();
        liveSeeds();
        liveNoDays();
        liveStays();
        goThatCannotBe();
        strikeThatCannotBe();
        restoreThatCannotBe();
        believeOfWhatHeHas();
        anyWithoutLegs();
        drawsOfAny();
        anyByOdds();
        whenAt();
        whenClosed();
        whenMisses();
        whenPaces();
        loopOneToNinetyNine();
        loopLeftOpen();
        loopWithinLoop();
        stepsAtMostThreeHundred();
        whenAndLoopCountAsOne();
        aStepWasLeft();
        stopIsAStep();
        livedWhats();
        livedOfTheLatest();
        meanSeeds();
        meanNoDays();
        meanAllStaysAsItIs();
        meanIsTheMean();
        Due.end("EdgesOfDaysTest");
    }

    private static PacedMap mapOf(String town) {
        PacedMap map = new PacedMap();
        Due.with("town of " + town, map, Due.town(map, town) >= 0, true, 0);
        return map;
    }

    private static void days(String text, int steps) {
        PacedMap map = mapOf(Seen.TOWN);
        Due.with("11: " + text, map, Due.days(map, text), steps, 0);
        Due.is("12: no FAULT of " + text, map.fault(0), 0);
        Due.is("12: nowhere of " + text, map.fault(1), -1);
    }

    private static void fault(String text, int kind, int place) {
        PacedMap map = mapOf(Seen.TOWN);
        Due.with("11: " + text, map, map.days(Due.feed(map, text.getBytes(StandardCharsets.ISO_8859_1))), -1, 9);
        Due.is("12: FAULT of " + text, map.fault(0), kind);
        Due.is("12: its place of " + text, map.fault(1), place);
    }

    /** The DAYS lived in a TOWN: how many STEPS, then how many were MISSED, WENT, STRUCK, RESTORED, and if one was left. */
    private static PacedMap lived(String town, String days, int steps, int... counts) {
        PacedMap map = mapOf(town);
        Due.with("11: " + days, map, Due.days(map, days) >= 0, true, 0);
        lived(map, days, 0, steps, counts);
        return map;
    }

    private static void lived(PacedMap map, String what, int seed, int steps, int... counts) {
        Due.with("41: " + what, map, map.live(seed), steps, 0);
        for (int i = 0; i < counts.length; i++) {
            Due.with("42: " + i + " of " + what, map, map.lived(i), counts[i], 0);
        }
    }

    /** "Likewise the DAYS": "The first n bytes of the tape (which is empty then)": "how many STEPS". */
    private static void daysOfTheFirstBytes() {
        PacedMap map = mapOf(Seen.TOWN);
        Due.feed(map, "any;any;any;#");
        Due.with("11: two", map, map.days(8), 2, 0);
        Due.with("11: the tape is empty", map, map.days(1), -1, 1);
        Due.is("11: it begins anew", map.feed(0, 0, 0, 0, 0), 20);
        map.days(0);
        Due.feed(map, "any;any;any;#");
        Due.with("11: three", map, map.days(12), 3, 0);
        Due.feed(map, "any;any;any;#");
        Due.with("11: the sign, too", map, map.days(13), -1, 9);
        Due.with("11: the tape is empty by a FAULT, too", map, map.days(1), -1, 1);
        Due.feed(map, "any;any;any;#");
        Due.with("11: without a ;", map, map.days(11), -1, 9);
        Due.is("11: at the end", map.fault(1), 11);
    }

    /** "(1 ..)": "n below 0, or more than the tape has, too". */
    private static void daysBelowZeroOrMoreThanTheTape() {
        for (int n : new int[] {-1, 41, 60, 300, 301, Integer.MIN_VALUE, Integer.MAX_VALUE}) {
            Seen.refused("11: " + n + " of 40", Seen::rich, map -> map.days(n), 1);
        }
        PacedMap map = mapOf(Seen.TOWN);
        Due.feed(map, "go 0;go 1;go 2;go 3;");
        Due.with("11: 21 of 20", map, map.days(21), -1, 1);
        Due.with("11: 20 of 20", map, map.days(20), 4, 0);
    }

    /** "(1: above 300, too ..)": though the tape has as many. */
    private static void daysAboveThreeHundred() {
        Seen.Start fed = map -> {
            Seen.rich(map);
            map.days(0);
            Due.feed(map, "go 0;any;any; " + " ".repeat(306));
        };
        for (int n : new int[] {301, 302, 320, 321, 900}) {
            Seen.refused("11: " + n + " of 320", fed, map -> map.days(n), 1);
        }
        PacedMap map = Seen.begun(fed);
        Due.with("11: 300 of 320", map, map.days(300), 3, 0);
        Due.with("11: the rest is gone", map, map.days(1), -1, 1);
    }

    /** "DAYS are a TEXT of at most 300 bytes": the 300th counts. */
    private static void daysOfThreeHundredBytes() {
        days(" ".repeat(294) + "go 11;", 1);
        fault(" ".repeat(294) + "go 11#", 1, 299);
        fault(" ".repeat(294) + "go 110", 4, 297);
        fault(" ".repeat(298) + "go", 2, 300);
        days("believe u 23;".repeat(22) + "go 0;stop;any;", 25);
        fault("1".repeat(300), 1, 0);
        fault("a".repeat(300), 2, 0);
    }

    /** "{STEP}": none. They are DAYS, of no STEPS. */
    private static void daysOfNothing() {
        days("", 0);
        days(" \n ", 0);
        PacedMap map = mapOf(Seen.TOWN);
        Due.with("41: none yet", map, map.live(0), -1, 6);
        Due.with("11: of nothing", map, map.days(0), 0, 0);
        lived(map, "nothing", 0, 0, 0, 0, 0, 0, 0);
        Due.fraction("43: of nothing", map, map.mean(0, 1), 4, 1);
        PacedMap none = new PacedMap();
        Due.with("11: in a TOWN of nothing", none, Due.days(none, "any;go 0;when closed;stop;end;"), 4, 0);
    }

    /** "9": the old ones stay; "with 9 the tape, and what fault() tells" change alone. */
    private static void theOldOnesStay() {
        String[] texts = {"#", "go", "go 12;", "any;any;any;any;loop 2;any;any;", "when at z;", "end;", "any;".repeat(31), "loop 1;".repeat(4)};
        for (String text : texts) {
            Seen.Start start = map -> {
                Seen.rich(map);
                map.days(0);
                Due.days(map, "go 0;any;when at b;strike 1;end;any;");
                Due.feed(map, text);
            };
            Seen.refused("11: " + text, start, map -> map.days(text.length()), 9);
        }
        PacedMap map = mapOf(Seen.TOWN);
        Due.days(map, "#");
        Due.with("11: none there, none stay", map, map.live(0), -1, 6);
    }

    /** DAYS that are taken are there in place of those ahead; the TOWN stays. */
    private static void inPlaceOfThoseAhead() {
        PacedMap map = mapOf(Seen.TOWN);
        map.strike(4);
        Due.days(map, "go 0;go 0;go 0;");
        Due.days(map, "strike 0;");
        lived(map, "those behind", 0, 1, 0, 0, 1, 0, 0);
        Due.with("11: the TOWN stays", map, map.told(7), 17, 0);
        map.days(0);
        lived(map, "none behind", 0, 0, 0, 0, 0, 0, 0);
    }

    /** "of such TOKENS": as long as they go, blanks 10 and 32, the same signs. */
    private static void tokensOfDays() {
        days("go0;strike11;", 2);
        days("\nany\n;\n\nany  ;", 2);
        days("when paces<5;end;when paces=5;end;when paces>5;end;", 3);
        fault("anyany;", 2, 0);
        fault("any\tany;", 1, 3);
        fault("go 1 1;", 2, 5);
        fault("any\u00ff;", 1, 3);
        fault("any:", 1, 3);
    }

    /** "go, strike, restore, misses: a LEG (0 to 11); believe: .. a FAULT (0 to 23)", "0 to 9,999", "loop n (1 to 99)": 4. */
    private static void numbersOfDays() {
        for (String step : new String[] {"go ", "strike ", "restore ", "when misses "}) {
            String end = step.startsWith("when") ? ";end;" : ";";
            for (int leg = 0; leg < 12; leg++) {
                days(step + leg + end, 1);
            }
            fault(step + "12" + end, 4, step.length());
            fault(step + "9999" + end, 4, step.length());
            fault(step + "10000" + end, 1, step.length());
        }
        for (int f = 0; f < 24; f++) {
            days("believe u " + f + ";", 1);
        }
        fault("believe u 24;", 4, 10);
        fault("believe u 9999;", 4, 10);
        fault("believe u 10000;", 1, 10);
        for (char sign : new char[] {'<', '>', '='}) {
            days("when paces " + sign + " 0;end;", 1);
            days("when paces " + sign + " 9999;end;", 1);
            fault("when paces " + sign + " 10000;end;", 1, 13);
        }
        days("loop 1;end;", 1);
        days("loop 99;end;", 1);
        days("loop 0099;end;", 1);
        fault("loop 0;end;", 4, 5);
        fault("loop 100;end;", 4, 5);
        fault("loop 9999;end;", 4, 5);
        fault("loop 00099;end;", 1, 5);
    }

    /** "3 a NAME that is no such one (a WALKER behind believe, a PLACE behind at)". */
    private static void namesOfDays() {
        for (String walker : new String[] {"u", "v", "w"}) {
            days("believe " + walker + " 0;", 1);
            fault("when at " + walker + ";", 3, 8);
        }
        for (String place : new String[] {"a", "b", "c", "d"}) {
            days("when at " + place + ";end;", 1);
            fault("believe " + place + " 0;", 3, 8);
        }
        fault("believe x 0;", 3, 8);
        fault("believe uu 0;", 3, 8);
        fault("when at e;end;", 3, 8);
        fault("when at abcdefgh;end;", 3, 8);
        fault("when at abcdefghi;end;", 2, 8);
        fault("believe abcdefghi 0;", 2, 8);
        fault("believe abcdefgh 0;", 3, 8);
        for (String word : WORDS) {
            fault("believe " + word + " 0;", 2, 8);
            fault("when at " + word + ";end;", 2, 8);
        }
        PacedMap map = mapOf("place a;");
        map.settle();
        Due.with("11: a PLACE that was settled has no NAME", map, Due.days(map, "when at b;end;"), -1, 9);
        Due.with("11: the one told has", map, Due.days(map, "when at a;end;"), 1, 0);
    }

    /** "COMPARES: < or > or =": none of them, two of them, another one. */
    private static void comparesOfDays() {
        fault("when paces 5;", 2, 11);
        fault("when paces ; 5;", 2, 11);
        fault("when paces <= 5;", 2, 12);
        fault("when paces >< 5;", 2, 12);
        fault("when paces ! 5;", 1, 11);
        fault("when paces a 5;", 2, 11);
        // 59 to 62 are the signs' own numbers, as NUMBERS they are none.
        for (int number = 59; number <= 62; number++) {
            fault("when paces " + number + " 5;end;", 2, 11);
            fault("any " + number + ";", 2, 4);
        }
    }

    /** What each TOKEN comes to behind a row of others: those that may stand go on, all others are 2 (1 if they are none). */
    private static void standing() {
        stands("", STEPS);
        stands("any;", STEPS);
        stands("loop 1;", STEPS + " end");
        stands("loop 1;end;", STEPS);
        stands("loop 1;end ", ";");
        for (String step : new String[] {"go ", "strike ", "restore ", "loop "}) {
            stands(step, "1");
            stands(step + "1 ", ";");
        }
        stands("believe ", "u");
        stands("believe u ", "0 1");
        stands("believe u 1 ", ";");
        stands("any ", ";");
        stands("stop ", ";");
        stands("when ", "at closed misses paces");
        stands("when at ", "a");
        stands("when at a ", ";");
        stands("when closed ", ";");
        stands("when misses ", "0 1");
        stands("when misses 1 ", ";");
        stands("when paces ", "< > =");
        stands("when paces < ", "0 1 9999");
        stands("when paces > ", "0 1 9999");
        stands("when paces = ", "0 1 9999");
        stands("when paces < 1 ", ";");
        stands("when closed;", STEPS + " end");
    }

    private static void stands(String ahead, String fine) {
        String tokens = String.join(" ", WORDS) + " a u q abcdefgh abcdefghi 0 1 9999 12345 ; < > = # A";
        for (String token : tokens.split(" ")) {
            char c = token.charAt(0);
            boolean name = c >= 'a' && c <= 'z' && token.length() < 9 && !has(String.join(" ", WORDS), token);
            boolean number = c >= '0' && c <= '9';
            int kind = 2;
            if (has("12345 # A", token)) {
                kind = 1;
            } else if (has(fine, token) || number && has(fine, "0") && has("0 1", token)) {
                kind = 0;
            } else if (name && (has(fine, "a") || has(fine, "u"))) {
                kind = 3;
            } else if (number && has(fine, "1")) {
                kind = token.equals("0") && !ahead.equals("loop ") ? 0 : 4;
            }
            if (kind == 0) {
                fault(ahead + token + " #", 1, ahead.length() + token.length() + 1);
            } else {
                fault(ahead + token + " ", kind, ahead.length());
            }
        }
    }

    private static boolean has(String tokens, String token) {
        return (" " + tokens + " ").contains(" " + token + " ");
    }

    /** "2 .. (.. the text's end ahead of an end: 2)", "(the end: the text's length ..)". */
    private static void theEndIsTheTextsLength() {
        String[] tokens = "go 1 ; believe u 3 ; loop 2 ; any ; when paces < 5 ; when at a ; stop ; end ; end ; end ; when misses 3 ; end ;".split(" ");
        StringBuilder text = new StringBuilder();
        int depth = 0;
        int steps = 0;
        for (String token : tokens) {
            text.append(token);
            depth += has("loop when", token) ? 1 : token.equals("end") ? -1 : 0;
            steps += has(STEPS, token) ? 1 : 0;
            if (token.equals(";") && depth == 0) {
                days(text.toString(), steps);
            } else {
                fault(text.toString(), 2, text.length());
                fault(text + "  ", 2, text.length() + 2);
            }
            text.append(' ');
        }
    }

    /** "(an end without a beginning ..: 2)". */
    private static void anEndWithoutABeginning() {
        fault("end;", 2, 0);
        fault("any;end;", 2, 4);
        fault("loop 1;end;end;", 2, 11);
        fault("loop 1;loop 1;end;end; end;", 2, 23);
        fault("end", 2, 0);
        days("loop 1;loop 1;end;end;", 2);
    }

    /** "6 a 31st STEP (at its WORD; end is none)". */
    private static void stepsAtMostThirty() {
        days("any;".repeat(29), 29);
        days("any;".repeat(30), 30);
        fault("any;".repeat(31), 6, 120);
        fault("any;".repeat(30) + " stop", 6, 121);
        for (String step : STEPS.split(" ")) {
            fault("any;".repeat(30) + step, 6, 120);
        }
        days("loop 1;end;".repeat(27), 27);
        days("loop 1;any;any;any;any;any;any;any;any;any;end;".repeat(3), 30);
        fault("loop 1;any;any;any;any;any;any;any;any;any;end;".repeat(3) + "any", 6, 141);
        fault("loop 1;" + "any;".repeat(29) + "any;end;", 6, 123);
        days("loop 1;" + "any;".repeat(29) + "end;", 30);
        fault("any;".repeat(30) + "end;", 2, 120);
        fault("any;".repeat(30) + "leg", 2, 120);
    }

    /** "7 a when, loop within three others (at its WORD)": three deep are taken, and again and again. */
    private static void withinThreeOthers() {
        for (String one : new String[] {"loop 2;", "when closed;"}) {
            for (String two : new String[] {"loop 2;", "when closed;"}) {
                String three = one + two + one;
                days(three + "end;end;end;", 3);
                days(three + "any;stop;go 1;end;end;end;", 6);
                days(three + "end;" + two + "end;end;" + one + two + "end;end;end;", 6);
                fault(three + "loop 1;", 7, three.length());
                fault(three + "when closed;", 7, three.length());
                fault(three + "any;when", 7, three.length() + 4);
                fault(three + "end;" + two + "loop", 7, three.length() + 4 + two.length());
                days((three + "end;end;end;").repeat(2) + three + "end;end;end;", 9);
            }
        }
    }

    /** "of one TOKEN the least kind": 1, 2 ahead of 4; 6 ahead of 7. */
    private static void ofOneTokenTheLeastKind() {
        String three = "loop 1;loop 1;loop 1;";
        fault(three + "any;".repeat(27) + "loop", 6, three.length() + 108);
        fault(three + "any;".repeat(27) + "when", 6, three.length() + 108);
        fault(three + "any;".repeat(26) + "loop", 7, three.length() + 104);
        fault(three + "go loop", 2, three.length() + 3);
        fault("any;".repeat(30) + "12345", 1, 120);
        fault("any;".repeat(29) + "any any", 2, 120);
        fault("go 12345", 1, 3);
        fault("believe 24", 2, 8);
    }

    /** "FAULTS, the first along the text". */
    private static void theFirstAlongTheText() {
        fault("go 12;#", 4, 3);
        fault("loop 0;", 4, 5);
        fault("loop 100;go 12;", 4, 5);
        fault("believe z 24;", 3, 8);
        fault("end;#", 2, 0);
        fault("any;".repeat(31) + "#", 6, 120);
        fault("loop 1;loop 1;loop 1;loop 0;", 7, 21);
    }

    /** "LIVED by a seed (0 to 9,999)", live "(1 ..)". */
    private static void liveSeeds() {
        Seen.bounds("41: seed", Seen::rich, (map, v) -> map.live(v), 0, 9999);
        Seen.refused("41: 1 ahead of 6", map -> { }, map -> map.live(10000), 1);
        Seen.refused("41: 1 ahead of 6, below", map -> { }, map -> map.live(-1), 1);
    }

    /** "6: no DAYS": at first, behind a TOWN that is taken. */
    private static void liveNoDays() {
        Seen.refused("41: at first", map -> { }, map -> map.live(0), 6);
        Seen.refused("41: behind a TOWN", map -> Due.town(map, Seen.TOWN), map -> map.live(9999), 6);
        Seen.Start town = map -> {
            Seen.rich(map);
            map.town(0);
        };
        Seen.refused("41: there were some", town, map -> map.live(0), 6);
        PacedMap map = Seen.begun(Seen::rich);
        Due.town(map, "odds 17;");
        Due.with("41: behind a TOWN with a FAULT they stay", map, map.live(0) > 0, true, 0);
    }

    /** "from how all is now: what it comes to stays". */
    private static void liveStays() {
        PacedMap map = mapOf(Seen.TOWN);
        Due.days(map, "go 0;strike 1;believe u 9;go 3;");
        map.strike(2);
        lived(map, "first", 0, 4, 1, 1, 1, 0, 0);
        Due.with("41: STRUCK stay", map, map.told(7), 6, 0);
        Due.with("41: at b", map, map.told(4), 1, 0);
        Due.with("41: gone", map, map.told(5), 4, 0);
        Due.with("41: BELIEVED", map, map.walker(0, 3), 9, 0);
        lived(map, "second", 0, 4, 2, 2, 0, 0, 0);
        Due.with("41: gone more", map, map.told(5), 4 + 8 + 10, 0);
        Due.with("41: at d", map, map.told(4), 3, 0);
        Due.with("41: ODDS stay", map, map.told(3), 4, 0);
        Due.with("41: DAYS stay", map, map.live(0), 4, 0);
    }

    /** "MISSED: a go (..) along a LEG that there is not, that is STRUCK, at neither end of which one stands". */
    private static void goThatCannotBe() {
        lived(Seen.TOWN, "go 5;go 11;", 2, 2, 0, 0, 0, 0);
        lived(Seen.TOWN, "go 1;go 4;", 2, 2, 0, 0, 0, 0);
        lived(Seen.TOWN, "strike 0;go 0;", 2, 1, 0, 1, 0, 0);
        PacedMap map = lived(Seen.TOWN, "go 0;go 0;go 0;go 1;", 4, 0, 4, 0, 0, 0);
        Due.is("41: gone", map.told(5), 18);
        Due.is("41: at c", map.told(4), 2);
        lived("place a;place b;walker u;", "go 0;", 1, 1, 0, 0, 0, 0);
        PacedMap twelve = lived(TWELVE, "go 11;go 10;", 2, 0, 2, 0, 0, 0);
        Due.is("41: there and back", twelve.told(4), 0);
        PacedMap none = lived("", "go 0;", 1, 1, 0, 0, 0, 0);
        Due.with("41: nowhere still", none, none.told(4), -1, 6);
    }

    /** "a strike of one that there is not, that is STRUCK". */
    private static void strikeThatCannotBe() {
        lived(Seen.TOWN, "strike 5;strike 11;", 2, 2, 0, 0, 0, 0);
        PacedMap map = lived(Seen.TOWN, "strike 4;strike 4;strike 0;", 3, 1, 0, 2, 0, 0);
        Due.is("41: STRUCK", map.told(7), 17);
        PacedMap twelve = lived(TWELVE, "strike 11;strike 11;", 2, 1, 0, 1, 0, 0);
        Due.is("41: the 12th", twelve.told(7), 2048);
    }

    /** "a restore of one that there is not, that is not STRUCK". */
    private static void restoreThatCannotBe() {
        lived(Seen.TOWN, "restore 5;restore 11;restore 0;restore 4;", 4, 4, 0, 0, 0, 0);
        PacedMap map = lived(Seen.TOWN, "strike 4;restore 4;restore 4;strike 0;", 4, 1, 0, 2, 1, 0);
        Due.is("41: STRUCK", map.told(7), 1);
    }

    /** "a believe of what he has". */
    private static void believeOfWhatHeHas() {
        PacedMap map = lived(Seen.TOWN, "believe u 0;believe v 1;believe w 12;believe u 23;believe u 23;believe v 0;", 6, 4, 0, 0, 0, 0);
        Due.is("41: u", map.walker(0, 3), 23);
        Due.is("41: v", map.walker(1, 3), 0);
        Due.is("41: w", map.walker(2, 3), 12);
    }

    /** "any without LEGS (no draws)": what comes behind draws as if there had been none. */
    private static void anyWithoutLegs() {
        lived("place a;place b;walker u;", "any;any;any;", 3, 3, 0, 0, 0, 0);
        lived("", "any;", 1, 1, 0, 0, 0, 0);
        lived("odds 16;place a;", "any;", 1, 1, 0, 0, 0, 0);
        // With LEGS that are all STRUCK it draws, and is MISSED or RESTORES.
        PacedMap map = mapOf("odds 0;" + TWO);
        map.strike(0);
        Due.days(map, "any;");
        lived(map, "one STRUCK, ODDS 0", 0, 1, 1, 0, 0, 0, 0);
        map.rule(16);
        lived(map, "one STRUCK, ODDS 16", 0, 1, 0, 0, 0, 1, 0);
    }

    private static int next(int s) {
        return (int) ((s * 3277L + 11505) % 65536);
    }

    /** "Draws: s, at first the seed, becomes what is left of s times 3,277 and 11,505 by 65,536; the draw by n is the rest of s by 8 .. by n." */
    private static void drawsOfAny() {
        for (int seed : new int[] {0, 1, 2, 7, 8, 500, 4321, 9998, 9999}) {
            for (int legs = 1; legs <= 12; legs++) {
                PacedMap map = mapOf("odds 16;place a;place b;walker u;" + "leg u a b east 1 north 0;".repeat(legs));
                Due.days(map, "loop 7;any;end;");
                int s = seed;
                int struck = 0;
                for (int i = 0; i < 7; i++) {
                    s = next(s);
                    struck ^= 1 << s / 8 % legs;
                    s = next(s);
                }
                Due.with("41: seed " + seed + ", LEGS " + legs, map, map.live(seed), 8, 0);
                Due.with("41: STRUCK by seed " + seed + ", LEGS " + legs, map, map.told(7), struck, 0);
            }
        }
    }

    /** "a draw by 16 (both first): if that is below ODDS, it is STRUCK, or RESTORED if it is STRUCK, else one GOES along it". */
    private static void anyByOdds() {
        boolean[] seen = new boolean[17];
        for (int seed = 0; seed < 60; seed++) {
            int drawn = next(next(seed)) / 8 % 16;
            for (int odds : new int[] {0, drawn, drawn + 1, 16}) {
                PacedMap map = mapOf(TWO);
                map.rule(odds);
                Due.days(map, "any;");
                boolean strikes = drawn < odds;
                lived(map, "drawn " + drawn + ", ODDS " + odds, seed, 1, 0, strikes ? 0 : 1, strikes ? 1 : 0, 0, 0);
                Due.is("41: at b", map.told(4), strikes ? 0 : 1);
                Due.is("41: STRUCK", map.told(7), strikes ? 1 : 0);
                lived(map, "again, drawn " + drawn + ", ODDS " + odds, seed, 1, 0, strikes ? 0 : 1, 0, strikes ? 1 : 0, 0);
                Due.is("41: at a", map.told(4), 0);
                Due.is("41: RESTORED", map.told(7), 0);
                map.strike(0);
                lived(map, "STRUCK, drawn " + drawn + ", ODDS " + odds, seed, 1, strikes ? 0 : 1, 0, 0, strikes ? 1 : 0, 0);
            }
            seen[drawn] = true;
        }
        for (int drawn = 0; drawn < 16; drawn++) {
            Due.is("41: a draw of " + drawn, seen[drawn], true);
        }
    }

    /** "TEST: at NAME": where one stands, and nowhere else. */
    private static void whenAt() {
        lived(Seen.TOWN, "when at a;strike 0;end;when at b;strike 1;end;when at d;strike 2;end;", 4, 0, 0, 1, 0, 0);
        lived(Seen.TOWN, "go 3;when at a;strike 0;end;when at d;strike 2;end;", 4, 0, 1, 1, 0, 0);
    }

    /** "or closed". */
    private static void whenClosed() {
        PacedMap map = lived(Seen.TOWN, "when closed;strike 0;end;strike 3;when closed;strike 1;end;", 4, 0, 0, 2, 0, 0);
        Due.is("41: STRUCK", map.told(7), 10);
        lived("", "when closed;stop;end;go 0;", 2, 0, 0, 0, 0, 0);
        lived("place a;place b;place c;walker u;leg u b c east 1 north 0;leg u b c east 2 north 0;",
            "when closed;stop;end;strike 1;when closed;stop;end;go 0;", 4, 0, 0, 1, 0, 0);
    }

    /** "misses: both ends LIE, and it MISSES by 1 and more": not by 0, not STRUCK, not nowhere, not one that there is not. */
    private static void whenMisses() {
        lived(Seen.TOWN, "when misses 4;strike 0;end;", 2, 0, 0, 1, 0, 0);
        for (int leg : new int[] {0, 1, 2, 3, 5, 11}) {
            lived(Seen.TOWN, "when misses " + leg + ";strike 0;end;", 1, 0, 0, 0, 0, 0);
        }
        lived(Seen.TOWN, "strike 4;when misses 4;strike 0;end;", 2, 0, 0, 1, 0, 0);
        lived("place a;place b;place c;walker u;leg u b c east 1 north 0;leg u b c east 2 north 0;", "when misses 1;strike 0;end;", 1, 0, 0, 0, 0, 0);
        lived("place a;place b;walker u;" + "leg u a b east 1 north 0;".repeat(11) + "leg u a b east 1 north 1;", "when misses 11;strike 0;end;",
            2, 0, 0, 1, 0, 0);
        lived("place a;place b;walker u;walker v stride 2;leg u a b east 2 north 0;leg v a b east 1 north 0;",
            "when misses 1;strike 0;end;believe v 0;when misses 1;strike 0;end;", 4, 0, 0, 1, 0, 0);
    }

    /** "paces: the YARDS gone, against 0 to 9,999": below, above, the same; each at its edge. */
    private static void whenPaces() {
        int[] gone = {0, 1, 7};
        for (int yards : gone) {
            for (int number : new int[] {0, 1, 6, 7, 8, 9999}) {
                for (char sign : new char[] {'<', '>', '='}) {
                    boolean holds = sign == '<' ? yards < number : sign == '>' ? yards > number : yards == number;
                    lived("place a;place b;walker u;leg u a b east " + yards + " north 0;",
                        "go 0;when paces " + sign + " " + number + ";strike 0;end;", holds ? 3 : 2, 0, 1, holds ? 1 : 0, 0, 0);
                }
            }
        }
        String most = "place a;place b;walker u stride 3;leg u a b east 99 north 99;leg u a b east 99 north 0;";
        // 16 times 594 and 297 and 198 are 9999: LEG 1 is 297 YARDS, by STRIDE 2 it is 198.
        String walk = "loop 16;go 0;end;go 1;believe u 8;go 1;";
        lived(most, walk + "when paces = 9999;strike 0;end;when paces > 9999;strike 1;end;when paces < 9999;strike 1;end;", 24, 0, 18, 1, 0, 0);
        lived(most, walk + "believe u 0;go 0;when paces > 9999;strike 0;end;when paces = 9999;strike 1;end;", 25, 0, 19, 1, 0, 0);
    }

    /** "loop n (1 to 99): as often". */
    private static void loopOneToNinetyNine() {
        for (int n : new int[] {1, 2, 98, 99}) {
            PacedMap map = lived(TWO, "loop " + n + ";go 0;end;", n + 1, 0, n, 0, 0, 0);
            Due.is("41: gone by loop " + n, map.told(5), n);
        }
        lived(TWO, "loop 99;end;go 0;", 2, 0, 1, 0, 0, 0);
        lived(TWO, "loop 1;loop 1;loop 1;go 0;end;end;end;go 0;", 5, 0, 2, 0, 0, 0);
        // Come to a second time it goes as often again.
        lived(TWO, "loop 2;loop 3;go 0;end;end;", 1 + 2 + 6, 0, 6, 0, 0, 0);
    }

    /** One that was left by stop, by the 300, has no part in what is lived behind it. */
    private static void loopLeftOpen() {
        PacedMap map = mapOf(TWO);
        for (String left : new String[] {"loop 9;stop;end;", "loop 9;loop 99;go 0;end;end;", "any;loop 9;stop;end;"}) {
            Due.days(map, left);
            map.live(0);
            Due.days(map, "when closed;strike 11;end;restore 11;");
            lived(map, "when behind " + left, 0, 3, 2, 0, 0, 0, 0);
            Due.days(map, "restore 11;when closed;strike 11;end;");
            lived(map, "when behind one behind " + left, 0, 3, 2, 0, 0, 0, 0);
            Due.days(map, "loop 2;strike 11;end;");
            lived(map, "loop behind " + left, 0, 3, 2, 0, 0, 0, 0);
            Due.days(map, left);
        }
        Due.days(map, "loop 5;restore 11;stop;end;");
        lived(map, "stop", 0, 3, 1, 0, 0, 0, 0);
        lived(map, "stop once more", 0, 3, 1, 0, 0, 0, 0);
    }

    /** A loop within loops, each as often as the others come to it; and when within them. */
    private static void loopWithinLoop() {
        lived(TWO, "loop 3;loop 4;loop 5;go 0;end;go 0;end;go 0;end;", 1 + 3 + 12 + 60 + 12 + 3, 0, 75, 0, 0, 0);
        lived(TWO, "loop 6;when at a;go 0;when at b;strike 0;restore 0;end;end;when at b;go 0;end;end;", 1 + 6 * 7, 0, 12, 6, 6, 0);
        lived(TWO, "when at b;loop 9;go 0;end;when at a;go 0;end;end;go 0;", 2, 0, 1, 0, 0, 0);
        lived(TWO, "loop 2;when at b;loop 9;go 0;end;end;go 0;end;", 1 + 2 + 2 + 1 + 9, 0, 11, 0, 0, 0);
    }

    /** "At most 300 STEPS": 299, 300 and no more; MISSED ones, too. */
    private static void stepsAtMostThreeHundred() {
        lived(TWO, "loop 99;go 0;go 0;go 0;end;go 0;", 299, 0, 298, 0, 0, 0);
        lived(TWO, "loop 99;go 0;go 0;go 0;end;go 0;go 0;", 300, 0, 299, 0, 0, 0);
        PacedMap map = lived(TWO, "loop 99;go 0;go 0;go 0;end;go 0;go 0;strike 0;", 300, 0, 299, 0, 0, 1);
        Due.is("41: it was not done", map.told(7), 0);
        lived(TWO, "loop 99;go 9;go 9;go 9;end;go 9;go 9;go 9;", 300, 299, 0, 0, 0, 1);
        lived(TWO, "loop 99;go 0;go 0;go 0;go 0;end;", 300, 0, 299, 0, 0, 1);
    }

    /** "(when, loop count as one each time they are come to from ahead; end does not)". */
    private static void whenAndLoopCountAsOne() {
        lived(TWO, "loop 99;end;", 1, 0, 0, 0, 0, 0);
        lived(TWO, "loop 99;loop 99;end;end;", 100, 0, 0, 0, 0, 0);
        lived(TWO, "loop 99;loop 99;end;loop 99;end;loop 99;end;end;", 298, 0, 0, 0, 0, 0);
        lived(TWO, "loop 99;loop 99;end;loop 99;end;loop 99;end;end;go 0;go 0;go 0;", 300, 0, 2, 0, 0, 1);
        lived(TWO, "loop 99;when at b;end;when at b;end;when at a;end;end;go 0;go 0;", 300, 0, 2, 0, 0, 0);
        lived(TWO, "loop 3;loop 99;loop 99;end;end;end;", 300, 0, 0, 0, 0, 1);
        lived(TWO, "loop 2;loop 99;loop 99;end;end;end;", 1 + 2 + 198, 0, 0, 0, 0, 0);
        lived(TWO, "when at a;end;when at b;end;", 2, 0, 0, 0, 0, 0);
    }

    /** "1 if a STEP was left to be done (by the 300 alone, not by stop), else 0": ends that are left are none. */
    private static void aStepWasLeft() {
        String ahead = "loop 99;go 0;go 0;go 0;end;";
        lived(TWO, ahead + "go 0;when at a;go 0;end;", 300, 0, 298, 0, 0, 1);
        lived(TWO, ahead + "go 0;when at b;go 0;end;", 300, 0, 298, 0, 0, 0);
        lived(TWO, ahead + "when at b;when at a;go 0;end;end;", 300, 0, 297, 0, 0, 0);
        lived(TWO, ahead + "when at b;when at b;go 0;end;end;", 300, 0, 297, 0, 0, 1);
        lived(TWO, ahead + "when at b;go 0;end;", 300, 0, 298, 0, 0, 0);
        lived(TWO, ahead + "go 0;loop 99;end;", 300, 0, 298, 0, 0, 0);
        lived(TWO, ahead + "go 0;loop 1;go 0;end;", 300, 0, 298, 0, 0, 1);
        lived(TWO, ahead + "loop 1;go 0;end;", 300, 0, 298, 0, 0, 0);
        lived(TWO, ahead + "loop 2;go 0;end;", 300, 0, 298, 0, 0, 1);
        lived(TWO, ahead + "go 0;go 0;when closed;end;", 300, 0, 299, 0, 0, 1);
        lived(TWO, ahead + "go 0;go 0;loop 1;end;", 300, 0, 299, 0, 0, 1);
        lived(TWO, ahead + "go 0;go 0;stop;", 300, 0, 299, 0, 0, 1);
        lived(TWO, ahead + "go 0;stop;go 0;", 300, 0, 298, 0, 0, 0);
    }

    /** "stop": the rest is not come to; it counts as a STEP. */
    private static void stopIsAStep() {
        lived(TWO, "stop;", 1, 0, 0, 0, 0, 0);
        lived(TWO, "stop;go 0;", 1, 0, 0, 0, 0, 0);
        lived(TWO, "loop 9;loop 9;when at a;go 0;stop;end;end;end;go 0;", 5, 0, 1, 0, 0, 0);
        lived(TWO, "when at b;stop;end;go 0;", 2, 0, 1, 0, 0, 0);
    }

    /** lived: what 0 to 4 "(1; 6: there was none)": 1 ahead of 6. */
    private static void livedWhats() {
        Seen.bounds("42: what", Seen::rich, (map, v) -> map.lived(v), 0, 4);
        for (int w = 0; w < 5; w++) {
            int what = w;
            Seen.refused("42: there was none", map -> { }, map -> map.lived(what), 6);
        }
        Seen.refused("42: 1 ahead of 6", map -> { }, map -> map.lived(5), 1);
        Seen.refused("42: 1 ahead of 6, below", map -> { }, map -> map.lived(-1), 1);
    }

    /** "Of live() latest with STATUS 0 (whatever came behind it)". */
    private static void livedOfTheLatest() {
        PacedMap map = mapOf(TWO);
        map.mark();
        map.live(0);
        Due.with("42: one that is refused is none", map, map.lived(0), -1, 6);
        Due.days(map, "go 0;strike 0;go 0;restore 0;");
        map.mean(0, 20);
        Due.with("42: mean() is none", map, map.lived(0), -1, 6);
        map.live(0);
        long[] wants = {1, 1, 1, 1, 0};
        Seen.Call[] behind = {m -> m.live(10000), m -> m.mean(3, 4), m -> m.undo(), m -> m.town(0), m -> m.live(0), m -> m.mark()};
        for (int i = 0; i < behind.length; i++) {
            behind[i].on(map);
            for (int what = 0; what < 5; what++) {
                Due.with("42: " + what + " behind call " + i, map, map.lived(what), wants[what], 0);
            }
        }
        Due.town(map, TWO);
        Due.days(map, "strike 0;strike 0;");
        map.live(0);
        long[] news = {1, 0, 1, 0, 0};
        for (int what = 0; what < 5; what++) {
            Due.with("42: the latest, " + what, map, map.lived(what), news[what], 0);
        }
    }

    /** mean: "by so many seeds (1 to 20) from one on (1: the last above 9,999, too ..)". */
    private static void meanSeeds() {
        Seen.bounds("43: seed", Seen::rich, (map, v) -> map.mean(v, 1), 0, 9999);
        Seen.bounds("43: many", Seen::rich, (map, v) -> map.mean(0, v), 1, 20);
        for (int many = 1; many <= 20; many++) {
            int m = many;
            PacedMap map = Seen.begun(Seen::rich);
            Due.with("43: the last is 9,999, of " + m, map, map.mean(10000 - m, m), true, 0);
            Seen.refused("43: the last is 10,000, of " + m, Seen::rich, x -> x.mean(10001 - m, m), 1);
        }
        Seen.refused("43: 9,999 and 20", Seen::rich, map -> map.mean(9999, 20), 1);
        Seen.refused("43: far", Seen::rich, map -> map.mean(Integer.MAX_VALUE, 20), 1);
        Seen.refused("43: far many", Seen::rich, map -> map.mean(9999, Integer.MAX_VALUE), 1);
    }

    /** "6: no DAYS", behind 1. */
    private static void meanNoDays() {
        Seen.Start town = map -> {
            Seen.rich(map);
            map.town(0);
        };
        Seen.refused("43: no DAYS", town, map -> map.mean(0, 1), 6);
        Seen.refused("43: no DAYS at first", map -> { }, map -> map.mean(9999, 1), 6);
        Seen.refused("43: 1 ahead of 6", town, map -> map.mean(0, 0), 1);
        Seen.refused("43: 1 ahead of 6, the last", town, map -> map.mean(9999, 2), 1);
    }

    /** "all stays as it is", "(mean() alone takes it back)": but for the FRACTION. */
    private static void meanAllStaysAsItIs() {
        Seen.Start start = map -> {
            Seen.rich(map);
            map.days(0);
            Due.days(map, "go 0;strike 0;restore 4;believe w 3;believe v 0;any;any;loop 9;any;end;");
            map.misread(1, 0);
        };
        PacedMap map = Seen.begun(start);
        Due.with("43: taken", map, map.mean(5, 20), true, 0);
        map.misread(1, 0);
        Seen.alike("43: all stays", map, Seen.begun(start), true);
    }

    /** "The FRACTION is the mean of how many PLACES LIE somewhere behind the DAYS": each seed from how all is now. */
    private static void meanIsTheMean() {
        String town = "odds 9;place a;place b;place c;walker u;leg u a b east 1 north 0;leg u b c east 1 north 0;";
        for (int many : new int[] {1, 2, 3, 19, 20}) {
            for (int seed : new int[] {0, 33, 9980}) {
                long lying = 0;
                for (int i = 0; i < many; i++) {
                    PacedMap one = mapOf(town);
                    Due.days(one, "any;any;");
                    one.live(seed + i);
                    lying += Long.bitCount(one.told(6));
                }
                PacedMap map = mapOf(town);
                Due.days(map, "any;any;");
                Due.with("43: mean of " + many, map, map.mean(seed, many), true, 0);
                Due.is("43: mean of " + many + " from " + seed, map.top() * many, lying * map.bottom());
            }
        }
        PacedMap none = new PacedMap();
        none.days(0);
        Due.fraction("43: none LIES", none, none.mean(0, 20), 0, 1);
        PacedMap seven = mapOf("place a;");
        seven.days(0);
        Due.fraction("43: one LIES", seven, seven.mean(0, 20), 1, 1);
    }
}
