import java.lang.reflect.Method;
import java.util.ArrayList;
import java.util.Arrays;
import java.util.HashMap;
import java.util.List;
import java.util.Map;
import java.util.Random;

/**
 * Runs of calls by draws on PacedMap and on Oracle, which must answer alike.
 * Arguments: how many objects (1000 without), the first seed (1 without).
 */
public final class OracleTest {
    /** Name, weight and kinds of arguments of each call; see number(). */
    private static final String[] CALLS = {
        "tray 8 t4m", "write 12 tiv", "read 8 ti", "pour 8 titij", "fault 2 q",
        "told 20 q", "walker 8 w5", "leg 14 l8", "place 10 p2", "apart 5 pp", "joined 6 pp",
        "pace 8 wppee", "tell 6 lee", "strike 10 l", "restore 8 l", "believe 8 wf", "settle 2 ", "go 12 l", "rule 3 o",
        "out 3 ", "outSet 3 ", "fits 4 s", "firstFault 3 sw", "oddsThat 3 swf", "ask 3 s2",
        "way 6 pp", "wayAt 8 ppk", "area 10 tn", "game 2 g", "moveOf 2 g", "misread 5 kk", "share 5 w", "copyPlaces 5 t",
        "live 6 d", "lived 6 5", "mean 3 dn", "mark 4 ", "undo 3 ",
        "*town 4 ", "*days 6 ", "*feed 1 ", "*places 3 "
    };
    private static final String[] SCRAPS = {
        "odds", "place", "walker", "turned", "left", "stride", "leg", "east", "west", "north", "south", "go", "strike",
        "restore", "believe", "any", "when", "at", "closed", "misses", "paces", "loop", "end", "stop", ";", "<", ">",
        "=", "a", "b", "u", "v", "0", "1", "3", "16", "17", "99", "100", "9999", "12345", "abcdefgh", "abcdefghi", "#",
        "A", "\t", "\u00e9", "end;", "end;", "; ;", "odds 3;", "place z;", "walker w;", "any;", "stop;", "loop 2;"
    };

    private final Random random;
    private final PacedMap map = new PacedMap();
    private final Oracle oracle = new Oracle();
    private final List<String> done = new ArrayList<>();
    private final List<String> places = new ArrayList<>();
    private final List<String> walkers = new ArrayList<>();
    private int calls = 0;

    private OracleTest(long seed) {
        random = new Random(seed);
    }

    public static void main(String[] args) throws Exception {
        int many = args.length > 0 ? Integer.parseInt(args[0]) : 1000;
        long first = args.length > 1 ? Long.parseLong(args[1]) : 1;
        Map<String, Integer> seen = new HashMap<>();
        for (long seed = first; seed < first + many; seed++) {
            OracleTest run = new OracleTest(seed);
            if (!run.all(seen)) {
                System.out.println("seed " + seed + " of OracleTest: the calls were");
                run.done.forEach(System.out::println);
                System.exit(1);
            }
        }
        if (args.length > 2) {
            seen.keySet().stream().sorted().forEach(k -> System.out.println(k + ": " + seen.get(k)));
        }
        System.out.println("OracleTest: " + many + " objects answered as the oracle does");
    }

    private boolean all(Map<String, Integer> seen) throws Exception {
        int sum = 0;
        for (String c : CALLS) {
            sum += Integer.parseInt(c.split(" ")[1]);
        }
        if (random.nextInt(8) > 0 && !text(townText(), true, seen)) {
            return false;
        }
        while (calls < 450) {
            int pick = random.nextInt(sum);
            int at = 0;
            for (; pick >= Integer.parseInt(CALLS[at].split(" ")[1]); at++) {
                pick -= Integer.parseInt(CALLS[at].split(" ")[1]);
            }
            String[] c = CALLS[at].split(" ", 3);
            boolean fine;
            switch (c[0]) {
                case "*town": fine = text(townText(), true, seen); break;
                case "*days": fine = text(daysText(), false, seen); break;
                case "*places": fine = corners(seen); break;
                case "*feed": fine = call("feed", seen, word(), word(), word(), word(), word())
                    && call(random.nextBoolean() ? "town" : "days", seen, random.nextInt(24) - 1); break;
                default: fine = call(c[0], seen, numbers(c[2])); break;
            }
            if (!fine) {
                return false;
            }
        }
        return true;
    }

    private Object word() {
        return random.nextInt();
    }

    /** A tray of places, so that areas come to pass. */
    private boolean corners(Map<String, Integer> seen) throws Exception {
        int tray = random.nextInt(4);
        int n = 3 + random.nextInt(6);
        boolean fine = call("tray", seen, tray, random.nextInt(4), n);
        for (int i = 0; i < n; i++) {
            fine = fine && call("write", seen, tray, i, (long) random.nextInt(Math.max(1, oracle.s.places.size())));
        }
        return fine && call("area", seen, tray, n) && call("copyPlaces", seen, random.nextInt(4));
    }

    private Object[] numbers(String kinds) {
        Object[] all = new Object[kinds.length()];
        for (int i = 0; i < all.length; i++) {
            all[i] = number(kinds.charAt(i));
        }
        return all;
    }

    private Object number(char kind) {
        if (kind == 'v') {
            return random.nextInt(3) == 0 ? (Object) random.nextLong() : (Object) (long) (random.nextInt(600) - 300);
        }
        if (random.nextInt(150) == 0) {
            return new int[] {Integer.MIN_VALUE, Integer.MAX_VALUE, -2, 1 << 16, 1 << 30}[random.nextInt(5)];
        }
        boolean edge = random.nextInt(12) == 0;
        int top;
        switch (kind) {
            case 't': top = 4; break;
            case 'm': top = 61; break;
            case 'i': case 'j': top = edge ? 61 : 12; break;
            case 'w': top = edge ? 4 : oracle.s.walkers.size(); break;
            case 'p': top = edge ? 7 : oracle.s.places.size(); break;
            case 'l': top = edge ? 12 : oracle.s.legs.size(); break;
            case 'f': top = 24; break;
            case 's': top = 1 << oracle.s.walkers.size(); break;
            case 'o': top = 17; break;
            case 'q': top = 12; break;
            case 'n': top = edge ? 21 : 9; break;
            case 'k': top = edge ? 13 : 6; break;
            case 'g': top = 5; break;
            case 'd': top = edge ? 10000 : 1000; break;
            case 'e': return edge ? random.nextInt(205) - 102 : 6 * (random.nextInt(5) - 2);
            default: top = kind - '0'; break;
        }
        if (kind == 'd' && edge) {
            return 9978 + random.nextInt(24);
        }
        return edge ? random.nextInt(top + 2) - 1 : random.nextInt(Math.max(1, top));
    }

    private boolean text(String text, boolean town, Map<String, Integer> seen) throws Exception {
        String changed = random.nextInt(3) == 0 ? spoilt(text) : text;
        byte[] whole = changed.getBytes(java.nio.charset.StandardCharsets.ISO_8859_1);
        int n = Math.min(whole.length, 900 - oracle.fed / 20 * 20);
        byte[] padded = Arrays.copyOf(whole, (n + 19) / 20 * 20);
        done.add("text: " + changed.replace("\n", "\\n"));
        // What stands on the tape from ahead is cut away by a town of nothing now and then.
        if (oracle.fed > 0 && !call("days", seen, 0)) {
            return false;
        }
        n = Math.min(whole.length, 900);
        for (int i = 0; i + 20 <= padded.length; i += 20) {
            if (!call("feed", seen, Due.four(padded, i), Due.four(padded, i + 4), Due.four(padded, i + 8),
                Due.four(padded, i + 12), Due.four(padded, i + 16))) {
                return false;
            }
        }
        if (random.nextInt(20) == 0) {
            n += random.nextInt(5) - 2;
        }
        return call(town ? "town" : "days", seen, n) && call("fault", seen, 0) && call("fault", seen, 1);
    }

    private String spoilt(String text) {
        StringBuilder b = new StringBuilder(text);
        int many = 1 + random.nextInt(2);
        for (int i = 0; i < many; i++) {
            int at = random.nextInt(b.length() + 1);
            String scrap = SCRAPS[random.nextInt(SCRAPS.length)];
            switch (random.nextInt(5)) {
                case 0: b.insert(at, scrap); break;
                case 1: b.insert(at, " " + scrap + " "); break;
                case 2: b.delete(at, Math.min(b.length(), at + 1 + random.nextInt(4))); break;
                case 3:
                    int blank = b.indexOf(" ", at);
                    int end = blank < 0 ? -1 : b.indexOf(" ", blank + 1);
                    if (end > 0) {
                        b.replace(blank + 1, end, scrap);
                    }
                    break;
                default: b.setLength(at); break;
            }
        }
        return b.toString();
    }

    private String blank() {
        int n = random.nextInt(12);
        return n == 0 ? "\n" : n == 1 ? "  " : n == 2 ? " \n " : " ";
    }

    private String semi() {
        return random.nextInt(6) == 0 ? " ; " : random.nextInt(3) == 0 ? ";\n" : ";";
    }

    /** Legs are mostly told as they are by a fault of the walker that may be other than what is believed. */
    private String townText() {
        StringBuilder b = new StringBuilder();
        int np = random.nextInt(12) == 0 ? random.nextInt(9) : 2 + random.nextInt(6);
        int nw = random.nextInt(12) == 0 ? random.nextInt(6) : 1 + random.nextInt(4);
        int nl = random.nextInt(12) == 0 ? 11 + random.nextInt(3) : random.nextInt(11);
        places.clear();
        walkers.clear();
        if (random.nextInt(3) == 0) {
            b.append("odds").append(blank()).append(random.nextInt(17)).append(semi());
        }
        int[][] at = new int[np][];
        for (int i = 0; i < np; i++) {
            places.add(random.nextInt(5) == 0 ? "place" + (char) ('a' + i) : "" + (char) ('a' + i));
            at[i] = new int[] {6 * (random.nextInt(7) - 3), 6 * (random.nextInt(7) - 3)};
            b.append("place").append(blank()).append(places.get(i)).append(semi());
        }
        int[] faults = new int[nw];
        for (int i = 0; i < nw; i++) {
            walkers.add("" + (char) ('u' + i));
            faults[i] = random.nextInt(24);
            int believed = random.nextInt(3) == 0 ? random.nextInt(24) : faults[i];
            b.append("walker").append(blank()).append(walkers.get(i));
            if (believed % 4 > 0 || random.nextBoolean()) {
                b.append(blank()).append("turned").append(blank()).append(believed % 4);
            }
            b.append(believed / 4 % 2 == 1 ? " left" : "");
            if (believed > 7 || random.nextBoolean()) {
                b.append(blank()).append("stride").append(blank()).append(1 + believed / 8);
            }
            b.append(semi());
        }
        for (int i = 0; i < nl && np > 1 && nw > 0; i++) {
            int w = random.nextInt(nw);
            int from = random.nextInt(np);
            int to = (from + 1 + random.nextInt(np - 1)) % np;
            int[] t = toldBy(at[to][0] - at[from][0], at[to][1] - at[from][1], faults[w]);
            if (random.nextInt(6) == 0) {
                t[random.nextInt(2)] = random.nextInt(21) - 10;
            }
            b.append("leg").append(blank()).append(walkers.get(w)).append(blank()).append(places.get(from))
                .append(blank()).append(places.get(to)).append(blank())
                .append(t[0] < 0 || t[0] == 0 && random.nextBoolean() ? "west " : "east ").append(Math.abs(t[0]))
                .append(blank()).append(t[1] < 0 ? "south " : "north ").append(Math.abs(t[1])).append(semi());
        }
        return b.toString();
    }

    private static int[] toldBy(int east, int north, int fault) {
        int e = east / (1 + fault / 8);
        int n = north / (1 + fault / 8);
        for (int i = 0; i < fault % 4; i++) {
            int t = e;
            e = -n;
            n = t;
        }
        return new int[] {fault / 4 % 2 == 1 ? -e : e, n};
    }

    private String daysText() {
        StringBuilder b = new StringBuilder();
        int steps = random.nextInt(10) == 0 ? 33 : random.nextInt(14);
        int most = random.nextInt(15) == 0 ? 4 : 3;
        int depth = 0;
        for (int i = 0; i < steps; i++) {
            int kind = random.nextInt(steps > 30 && random.nextInt(3) > 0 ? 1 : 12);
            int leg = random.nextInt(random.nextInt(8) == 0 ? 13 : Math.max(1, oracle.s.legs.size()));
            if (kind < 4) {
                b.append(kind == 0 ? "any" : kind == 1 ? "go " + leg : kind == 2 ? "strike " + leg : "restore " + leg);
            } else if (kind == 4) {
                b.append("go ").append(leg);
            } else if (kind == 5 && !walkers.isEmpty()) {
                b.append("believe ").append(walkers.get(random.nextInt(walkers.size()))).append(" ")
                    .append(random.nextInt(random.nextInt(9) == 0 ? 30 : 24));
            } else if (kind < 8 && depth < most) {
                b.append("when ").append(testText(leg));
                depth++;
            } else if (kind < 10 && depth < most) {
                b.append("loop ").append(random.nextInt(8) == 0 ? random.nextInt(101) : 1 + random.nextInt(9));
                depth++;
            } else if (depth > 0) {
                b.append("end");
                depth--;
            } else {
                b.append(random.nextInt(5) == 0 ? "stop" : "any");
            }
            b.append(semi());
        }
        for (; depth > 0; depth--) {
            b.append("end").append(semi());
        }
        return b.toString();
    }

    private String testText(int leg) {
        switch (random.nextInt(4)) {
            case 0: return "closed";
            case 1: return "misses " + leg;
            case 2: return places.isEmpty() ? "closed" : "at " + places.get(random.nextInt(places.size()));
            default: return "paces" + blank() + "<>=".charAt(random.nextInt(3)) + blank() + random.nextInt(random.nextBoolean() ? 50 : 900);
        }
    }

    private boolean call(String name, Map<String, Integer> seen, Object... args) throws Exception {
        Object got = invoke(map, name, args);
        Object want = invoke(oracle, name, args);
        calls++;
        String told = name + Arrays.toString(args);
        done.add(told + " -> " + got);
        boolean fine = got.equals(want) && map.status() == oracle.status()
            && map.top() == oracle.top() && map.bottom() == oracle.bottom();
        if (!fine) {
            System.out.println(told + " answered " + got + ", status " + map.status() + ", " + map.top() + "/" + map.bottom()
                + "; the oracle " + want + ", status " + oracle.status() + ", " + oracle.top() + "/" + oracle.bottom());
        }
        seen.merge(name + " status " + map.status(), 1, Integer::sum);
        if (name.equals("town") || name.equals("days")) {
            seen.merge(name + " fault " + map.fault(0), 1, Integer::sum);
        }
        return fine;
    }

    private static final Map<String, Method> METHODS = new HashMap<>();

    private static Object invoke(Object on, String name, Object[] args) throws Exception {
        String key = on.getClass().getName() + "." + name + args.length;
        Method m = METHODS.get(key);
        if (m == null) {
            Class<?>[] types = new Class<?>[args.length];
            for (int i = 0; i < args.length; i++) {
                types[i] = args[i] instanceof Long ? long.class : int.class;
            }
            m = on.getClass().getDeclaredMethod(name, types);
            METHODS.put(key, m);
        }
        return m.invoke(on, args);
    }
}
