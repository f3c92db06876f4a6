import java.util.ArrayDeque;
import java.util.ArrayList;
import java.util.Arrays;
import java.util.HashMap;
import java.util.List;
import java.util.Map;
import java.util.Set;
import java.util.TreeSet;

/**
 * The document once more, in the slowest and plainest form, with the whole Java library:
 * what OracleTest holds PacedMap against. It shares no code with it.
 */
final class Oracle {
    static final int NONE = -1;
    private static final Set<String> RESERVED = Set.of("odds", "place", "walker", "turned", "left", "stride", "leg",
        "east", "west", "north", "south", "go", "strike", "restore", "believe", "any", "when", "at", "closed",
        "misses", "paces", "loop", "end", "stop");

    /** A fault of a text ends its reading. */
    static final class TextFault extends RuntimeException {
        private static final long serialVersionUID = 1;

        final int kind;
        final int place;

        TextFault(int kind, int place) {
            this.kind = kind;
            this.place = place;
        }
    }

    static final class Token {
        String text = "";
        int at;
        boolean bad;
        boolean end;

        boolean isWord() {
            return !bad && !end && Character.isLetter(text.charAt(0));
        }

        boolean isNumber() {
            return !bad && !end && Character.isDigit(text.charAt(0));
        }
    }

    static final class Walker {
        String name;
        int turned;
        boolean left;
        int stride = 1;

        Walker copy() {
            Walker w = new Walker();
            w.name = name;
            w.turned = turned;
            w.left = left;
            w.stride = stride;
            return w;
        }

        int fault() {
            return turned + (left ? 4 : 0) + (stride - 1) * 8;
        }

        void set(int fault) {
            turned = fault % 4;
            left = (fault / 4) % 2 == 1;
            stride = 1 + fault / 8;
        }
    }

    static final class Leg {
        int walker;
        int from;
        int to;
        int east;
        int north;
        boolean struck;

        Leg copy() {
            Leg l = new Leg();
            l.walker = walker;
            l.from = from;
            l.to = to;
            l.east = east;
            l.north = north;
            l.struck = struck;
            return l;
        }
    }

    static final class Step {
        String word;
        int number;
        int second;
        String test;
        List<Step> inside = new ArrayList<>();
    }

    static final class State {
        List<String> places = new ArrayList<>();
        List<Walker> walkers = new ArrayList<>();
        List<Leg> legs = new ArrayList<>();
        int odds = 2;
        int stand = NONE;
        int gone = 0;
        List<Step> days = null;

        State copy() {
            State s = new State();
            s.places = new ArrayList<>(places);
            for (Walker w : walkers) {
                s.walkers.add(w.copy());
            }
            for (Leg l : legs) {
                s.legs.add(l.copy());
            }
            s.odds = odds;
            s.stand = stand;
            s.gone = gone;
            s.days = days;
            return s;
        }

        int[] right(Leg l) {
            Walker w = walkers.get(l.walker);
            int e = l.east;
            int n = l.north;
            if (w.left) {
                e = -e;
            }
            for (int i = 0; i < w.turned; i++) {
                int t = e;
                e = n;
                n = -t;
            }
            return new int[] {e * w.stride, n * w.stride};
        }

        int length(Leg l) {
            int[] r = right(l);
            return Math.abs(r[0]) + Math.abs(r[1]);
        }

        Map<Integer, int[]> lies() {
            Map<Integer, int[]> where = new HashMap<>();
            if (places.isEmpty()) {
                return where;
            }
            where.put(0, new int[] {0, 0});
            boolean more = true;
            while (more) {
                more = false;
                for (Leg l : legs) {
                    if (l.struck || where.containsKey(l.from) == where.containsKey(l.to)) {
                        continue;
                    }
                    int[] r = right(l);
                    if (where.containsKey(l.from)) {
                        int[] p = where.get(l.from);
                        where.put(l.to, new int[] {p[0] + r[0], p[1] + r[1]});
                    } else {
                        int[] p = where.get(l.to);
                        where.put(l.from, new int[] {p[0] - r[0], p[1] - r[1]});
                    }
                    more = true;
                    break;
                }
            }
            return where;
        }

        int misses(Leg l) {
            Map<Integer, int[]> where = lies();
            if (l.struck || !where.containsKey(l.from) || !where.containsKey(l.to)) {
                return NONE;
            }
            int[] r = right(l);
            int[] a = where.get(l.from);
            int[] b = where.get(l.to);
            return Math.abs(b[0] - a[0] - r[0]) + Math.abs(b[1] - a[1] - r[1]);
        }

        boolean joined(int a, int b) {
            Set<Integer> seen = new TreeSet<>(List.of(a));
            ArrayDeque<Integer> todo = new ArrayDeque<>(seen);
            while (!todo.isEmpty()) {
                int here = todo.remove();
                for (Leg l : legs) {
                    if (!l.struck && (l.from == here || l.to == here)) {
                        int next = l.from == here ? l.to : l.from;
                        if (seen.add(next)) {
                            todo.add(next);
                        }
                    }
                }
            }
            return seen.contains(b);
        }

        /** Every ring, walked as a row of legs none of which is used twice and no place come to twice. */
        boolean closed() {
            for (int p = 0; p < places.size(); p++) {
                if (!ringsClose(p, p, 0, 0, 0, 0)) {
                    return false;
                }
            }
            return true;
        }

        private boolean ringsClose(int start, int here, int usedLegs, int seen, int e, int n) {
            for (int i = 0; i < legs.size(); i++) {
                Leg l = legs.get(i);
                if (l.struck || (usedLegs >> i & 1) != 0 || (l.from != here && l.to != here)) {
                    continue;
                }
                int sign = l.from == here ? 1 : -1;
                int next = sign > 0 ? l.to : l.from;
                int[] r = right(l);
                int e2 = e + sign * r[0];
                int n2 = n + sign * r[1];
                if (next == start) {
                    if (e2 != 0 || n2 != 0) {
                        return false;
                    }
                } else if (next > start && (seen >> next & 1) == 0
                    && !ringsClose(start, next, usedLegs | 1 << i, seen | 1 << next, e2, n2)) {
                    return false;
                }
            }
            return true;
        }

        int[] offset(int a, int b) {
            int[][] at = new int[places.size()][];
            at[a] = new int[] {0, 0};
            ArrayDeque<Integer> todo = new ArrayDeque<>(List.of(a));
            while (!todo.isEmpty()) {
                int here = todo.removeLast();
                for (Leg l : legs) {
                    int next = l.from == here ? l.to : l.to == here ? l.from : NONE;
                    if (l.struck || next == NONE || at[next] != null) {
                        continue;
                    }
                    int sign = l.from == here ? 1 : -1;
                    int[] r = right(l);
                    at[next] = new int[] {at[here][0] + sign * r[0], at[here][1] + sign * r[1]};
                    todo.add(next);
                }
            }
            return at[b];
        }

        int parts() {
            int many = 0;
            for (int a = 0; a < places.size(); a++) {
                boolean first = true;
                for (int b = 0; b < a; b++) {
                    first &= !joined(a, b);
                }
                many += first ? 1 : 0;
            }
            return many;
        }

        boolean canGo(int leg) {
            if (leg < 0 || leg >= legs.size() || legs.get(leg).struck) {
                return false;
            }
            return legs.get(leg).from == stand || legs.get(leg).to == stand;
        }

        void go(int leg) {
            Leg l = legs.get(leg);
            gone += length(l);
            stand = l.from == stand ? l.to : l.from;
        }
    }

    State s = new State();
    final List<State> marks = new ArrayList<>();
    final long[][] trays = new long[4][];
    final int[] sorts = new int[4];
    final byte[] tape = new byte[900];
    int fed = 0;
    int status = 0;
    long top = 0;
    long bottom = 1;
    int faultKind = NONE;
    int faultPlace = NONE;
    int[] livedLatest = null;

    int status() {
        return status;
    }

    long top() {
        return top;
    }

    long bottom() {
        return bottom;
    }

    private int no(int why) {
        status = why;
        return NONE;
    }

    private boolean not(int why) {
        status = why;
        return false;
    }

    private boolean yes() {
        status = 0;
        return true;
    }

    private int ok(int v) {
        status = 0;
        return v;
    }

    private boolean tell(long a, long b) {
        long g = java.math.BigInteger.valueOf(a).gcd(java.math.BigInteger.valueOf(b)).longValue();
        top = a / g;
        bottom = b / g;
        return yes();
    }

    boolean tray(int t, int sort, int many) {
        if (t < 0 || t > 3 || sort < 0 || sort > 3 || many < 0 || many > 60) {
            return not(1);
        }
        trays[t] = new long[many];
        sorts[t] = sort;
        return yes();
    }

    private static long cut(long v, int sort) {
        int bits = 8 << sort;
        return bits == 64 ? v : v << (64 - bits) >> (64 - bits);
    }

    private int spot(int t, int place) {
        if (t < 0 || t > 3) {
            return 1;
        }
        if (trays[t] == null) {
            return 2;
        }
        return place < 0 || place >= trays[t].length ? 3 : 0;
    }

    boolean write(int t, int place, long v) {
        int why = spot(t, place);
        if (why != 0) {
            return not(why);
        }
        trays[t][place] = cut(v, sorts[t]);
        return yes();
    }

    long read(int t, int place) {
        int why = spot(t, place);
        if (why != 0) {
            return no(why);
        }
        status = 0;
        return trays[t][place];
    }

    boolean pour(int from, int place, int to, int at, int many) {
        if (from < 0 || from > 3 || to < 0 || to > 3 || place < 0 || at < 0 || many < 0) {
            return not(1);
        }
        if (trays[from] == null || trays[to] == null) {
            return not(2);
        }
        if (sorts[from] != sorts[to]) {
            return not(8);
        }
        if ((long) place + many > trays[from].length || (long) at + many > trays[to].length) {
            return not(3);
        }
        long[] were = Arrays.copyOfRange(trays[from], place, place + many);
        for (int i = 0; i < many; i++) {
            trays[to][at + i] = were[i];
        }
        return yes();
    }

    int feed(int a, int b, int c, int d, int e) {
        if (fed > 880) {
            return NONE;
        }
        java.nio.ByteBuffer.wrap(tape, fed, 20).putInt(a).putInt(b).putInt(c).putInt(d).putInt(e);
        fed += 20;
        return fed;
    }

    // ---- texts

    private List<Token> tokens;
    private int next;

    private void cutTokens(int n) {
        tokens = new ArrayList<>();
        next = 0;
        String text = new String(tape, 0, n, java.nio.charset.StandardCharsets.ISO_8859_1);
        int i = 0;
        while (i < n) {
            char c = text.charAt(i);
            int j = i;
            if (c == '\n' || c == ' ') {
                i++;
                continue;
            }
            Token t = new Token();
            t.at = i;
            if (c >= 'a' && c <= 'z') {
                while (j < n && text.charAt(j) >= 'a' && text.charAt(j) <= 'z') {
                    j++;
                }
            } else if (c >= '0' && c <= '9') {
                while (j < n && text.charAt(j) >= '0' && text.charAt(j) <= '9') {
                    j++;
                }
                t.bad = j - i > 4;
            } else {
                j++;
                t.bad = ";<>=".indexOf(c) < 0;
            }
            t.text = text.substring(i, j);
            tokens.add(t);
            i = j;
        }
        Token end = new Token();
        end.end = true;
        end.at = n;
        tokens.add(end);
    }

    private Token peek() {
        return tokens.get(next);
    }

    private TextFault faultAt(int kind) {
        return new TextFault(kind, peek().at);
    }

    private TextFault wrongHere() {
        return faultAt(peek().bad ? 1 : 2);
    }

    private boolean here(String text) {
        return !peek().bad && !peek().end && peek().text.equals(text);
    }

    private void need(String text) {
        if (!here(text)) {
            throw wrongHere();
        }
        next++;
    }

    private int number(int least, int most) {
        if (!peek().isNumber()) {
            throw wrongHere();
        }
        int v = Integer.parseInt(peek().text);
        if (v < least || v > most) {
            throw faultAt(4);
        }
        next++;
        return v;
    }

    private String name() {
        if (!peek().isWord() || RESERVED.contains(peek().text) || peek().text.length() > 8) {
            throw wrongHere();
        }
        return peek().text;
    }

    private static int walkerOf(State t, String name) {
        for (int i = 0; i < t.walkers.size(); i++) {
            if (t.walkers.get(i).name.equals(name)) {
                return i;
            }
        }
        return NONE;
    }

    private String newName(State t) {
        String name = name();
        if (t.places.contains(name) || walkerOf(t, name) != NONE) {
            throw faultAt(3);
        }
        next++;
        return name;
    }

    int town(int n) {
        if (n < 0 || n > fed) {
            return no(1);
        }
        try {
            cutTokens(n);
            fed = 0;
            State t = parseTown();
            t.stand = t.places.isEmpty() ? NONE : 0;
            s = t;
            faultKind = 0;
            faultPlace = NONE;
            return ok(s.legs.size());
        } catch (TextFault f) {
            faultKind = f.kind;
            faultPlace = f.place;
            return no(9);
        }
    }

    private State parseTown() {
        State t = new State();
        boolean odds = false;
        while (!peek().end) {
            if (here("odds")) {
                if (odds) {
                    throw faultAt(5);
                }
                odds = true;
                next++;
                t.odds = number(0, 16);
            } else if (here("place")) {
                if (t.places.size() == 7) {
                    throw faultAt(6);
                }
                next++;
                t.places.add(newName(t));
            } else if (here("walker")) {
                if (t.walkers.size() == 4) {
                    throw faultAt(6);
                }
                next++;
                Walker w = new Walker();
                w.name = newName(t);
                if (here("turned")) {
                    next++;
                    w.turned = number(0, 3);
                }
                if (here("left")) {
                    next++;
                    w.left = true;
                }
                if (here("stride")) {
                    next++;
                    w.stride = number(1, 3);
                }
                t.walkers.add(w);
            } else if (here("leg")) {
                if (t.legs.size() == 12) {
                    throw faultAt(6);
                }
                next++;
                t.legs.add(parseLeg(t));
            } else {
                throw wrongHere();
            }
            need(";");
        }
        return t;
    }

    private Leg parseLeg(State t) {
        Leg l = new Leg();
        l.walker = walkerOf(t, name());
        if (l.walker == NONE) {
            throw faultAt(3);
        }
        next++;
        l.from = t.places.indexOf(name());
        if (l.from == NONE) {
            throw faultAt(3);
        }
        next++;
        l.to = t.places.indexOf(name());
        if (l.to == NONE) {
            throw faultAt(3);
        }
        if (l.to == l.from) {
            throw faultAt(5);
        }
        next++;
        l.east = paces("east", "west");
        l.north = paces("north", "south");
        return l;
    }

    private int paces(String above, String below) {
        if (!here(above) && !here(below)) {
            throw wrongHere();
        }
        int sign = here(above) ? 1 : -1;
        next++;
        return sign * number(0, 99);
    }

    private int stepsRead;

    int days(int n) {
        if (n < 0 || n > fed || n > 300) {
            return no(1);
        }
        try {
            cutTokens(n);
            fed = 0;
            stepsRead = 0;
            List<Step> read = steps(0);
            s.days = read;
            faultKind = 0;
            faultPlace = NONE;
            return ok(stepsRead);
        } catch (TextFault f) {
            faultKind = f.kind;
            faultPlace = f.place;
            return no(9);
        }
    }

    private List<Step> steps(int depth) {
        List<Step> all = new ArrayList<>();
        while (true) {
            if (depth > 0 && here("end")) {
                next++;
                return all;
            }
            if (depth == 0 && peek().end) {
                return all;
            }
            all.add(step(depth));
            need(";");
        }
    }

    private Step step(int depth) {
        Step x = new Step();
        if (!peek().isWord() || !List.of("go", "strike", "restore", "believe", "any", "when", "loop", "stop").contains(peek().text)) {
            throw wrongHere();
        }
        x.word = peek().text;
        stepsRead++;
        if (stepsRead > 30) {
            throw faultAt(6);
        }
        boolean holds = x.word.equals("when") || x.word.equals("loop");
        if (holds && depth == 3) {
            throw faultAt(7);
        }
        next++;
        switch (x.word) {
            case "go", "strike", "restore" -> x.number = number(0, 11);
            case "believe" -> {
                x.number = walkerOf(s, name());
                if (x.number == NONE) {
                    throw faultAt(3);
                }
                next++;
                x.second = number(0, 23);
            }
            case "loop" -> x.number = number(1, 99);
            case "when" -> test(x);
            default -> { }
        }
        if (holds) {
            need(";");
            x.inside = steps(depth + 1);
        }
        return x;
    }

    private void test(Step x) {
        if (here("closed")) {
            next++;
            x.test = "closed";
        } else if (here("at")) {
            next++;
            x.test = "at";
            x.number = s.places.indexOf(name());
            if (x.number == NONE) {
                throw faultAt(3);
            }
            next++;
        } else if (here("misses")) {
            next++;
            x.test = "misses";
            x.number = number(0, 11);
        } else if (here("paces")) {
            next++;
            if (!here("<") && !here(">") && !here("=")) {
                throw wrongHere();
            }
            x.test = peek().text;
            next++;
            x.number = number(0, 9999);
        } else {
            throw wrongHere();
        }
    }

    int fault(int what) {
        return what == 0 ? faultKind : what == 1 ? faultPlace : NONE;
    }

    // ---- what is told

    int told(int what) {
        int set = 0;
        switch (what) {
            case 0: return ok(s.places.size());
            case 1: return ok(s.walkers.size());
            case 2: return ok(s.legs.size());
            case 3: return ok(s.odds);
            case 4: return s.stand == NONE ? no(6) : ok(s.stand);
            case 5: return ok(s.gone);
            case 6:
                for (int p : s.lies().keySet()) {
                    set += 1 << p;
                }
                return ok(set);
            case 7: case 8: case 9:
                for (int i = 0; i < s.legs.size(); i++) {
                    Leg l = s.legs.get(i);
                    if (what == 7 && l.struck || what == 8 && s.misses(l) > 0 || what == 9 && bridge(l)) {
                        set += 1 << i;
                    }
                }
                return ok(set);
            case 10:
                for (Leg l : s.legs) {
                    set += l.struck ? 0 : 1;
                }
                return ok(set - s.places.size() + s.parts());
            case 11: return ok(s.closed() ? 1 : 0);
            default: return no(1);
        }
    }

    private boolean bridge(Leg l) {
        if (l.struck) {
            return false;
        }
        l.struck = true;
        boolean parted = !s.joined(l.from, l.to);
        l.struck = false;
        return parted;
    }

    private boolean noWalker(int w) {
        return w < 0 || w >= s.walkers.size();
    }

    private boolean noPlace(int p) {
        return p < 0 || p >= s.places.size();
    }

    private boolean noLeg(int l) {
        return l < 0 || l >= s.legs.size();
    }

    int walker(int w, int what) {
        if (noWalker(w) || what < 0 || what > 4) {
            return no(1);
        }
        Walker x = s.walkers.get(w);
        int set = 0;
        for (int i = 0; i < s.legs.size(); i++) {
            set += s.legs.get(i).walker == w ? 1 << i : 0;
        }
        return ok(new int[] {x.turned, x.left ? 1 : 0, x.stride, x.fault(), set}[what]);
    }

    int leg(int leg, int what) {
        if (noLeg(leg) || what < 0 || what > 7) {
            return no(1);
        }
        Leg l = s.legs.get(leg);
        if (what == 7) {
            int m = s.misses(l);
            return m == NONE ? no(6) : ok(m);
        }
        return ok(new int[] {l.walker, l.from, l.to, l.east, l.north, s.right(l)[0], s.right(l)[1]}[what]);
    }

    int place(int p, int what) {
        if (noPlace(p) || what < 0 || what > 1) {
            return no(1);
        }
        int[] at = s.lies().get(p);
        return at == null ? no(6) : ok(at[what]);
    }

    int apart(int p, int q) {
        if (noPlace(p) || noPlace(q)) {
            return no(1);
        }
        int[] a = s.lies().get(p);
        int[] b = s.lies().get(q);
        return a == null || b == null ? no(6) : ok(Math.abs(a[0] - b[0]) + Math.abs(a[1] - b[1]));
    }

    int joined(int p, int q) {
        return noPlace(p) || noPlace(q) ? no(1) : ok(s.joined(p, q) ? 1 : 0);
    }

    private static boolean far(int paces) {
        return paces < -99 || paces > 99;
    }

    int pace(int w, int p, int q, int east, int north) {
        if (noWalker(w) || noPlace(p) || noPlace(q) || p == q || far(east) || far(north)) {
            return no(1);
        }
        if (s.legs.size() == 12) {
            return no(4);
        }
        Leg l = new Leg();
        l.walker = w;
        l.from = p;
        l.to = q;
        l.east = east;
        l.north = north;
        s.legs.add(l);
        return ok(s.legs.size() - 1);
    }

    boolean tell(int leg, int east, int north) {
        if (noLeg(leg) || far(east) || far(north)) {
            return not(1);
        }
        s.legs.get(leg).east = east;
        s.legs.get(leg).north = north;
        return yes();
    }

    private int struck() {
        return (int) s.legs.stream().filter(l -> l.struck).count();
    }

    int strike(int leg) {
        if (noLeg(leg)) {
            return no(1);
        }
        if (s.legs.get(leg).struck) {
            return no(7);
        }
        s.legs.get(leg).struck = true;
        return ok(struck());
    }

    int restore(int leg) {
        if (noLeg(leg)) {
            return no(1);
        }
        if (!s.legs.get(leg).struck) {
            return no(7);
        }
        s.legs.get(leg).struck = false;
        return ok(struck());
    }

    int believe(int w, int fault) {
        if (noWalker(w) || fault < 0 || fault > 23) {
            return no(1);
        }
        int old = s.walkers.get(w).fault();
        s.walkers.get(w).set(fault);
        return ok(old);
    }

    int settle() {
        if (s.places.size() == 7) {
            return no(4);
        }
        s.places.add("");
        if (s.places.size() == 1) {
            s.stand = 0;
        }
        return ok(s.places.size() - 1);
    }

    int go(int leg) {
        if (noLeg(leg)) {
            return no(1);
        }
        if (!s.canGo(leg)) {
            return no(7);
        }
        s.go(leg);
        return ok(s.stand);
    }

    boolean rule(int odds) {
        if (odds < 0 || odds > 16) {
            return not(1);
        }
        s.odds = odds;
        return yes();
    }

    // ---- what can't be right

    private int findOut() {
        int best = NONE;
        for (int set = 0; set < 1 << s.legs.size(); set++) {
            int many = Integer.bitCount(set);
            if (many > 3 || best != NONE && many >= Integer.bitCount(best)) {
                continue;
            }
            State t = s.copy();
            boolean fine = true;
            for (int i = 0; i < t.legs.size(); i++) {
                if ((set >> i & 1) != 0) {
                    fine &= !t.legs.get(i).struck;
                    t.legs.get(i).struck = true;
                }
            }
            if (fine && t.closed()) {
                best = set;
            }
        }
        return best;
    }

    int out() {
        int set = findOut();
        return set == NONE ? no(6) : ok(Integer.bitCount(set));
    }

    int outSet() {
        int set = findOut();
        return set == NONE ? no(6) : ok(set);
    }

    private boolean noSet(int set) {
        return set < 0 || set >= 1 << s.walkers.size() || Integer.bitCount(set) > 2;
    }

    /** Every way as the state it makes, in the document's order. */
    private List<State> ways(int set) {
        List<State> all = new ArrayList<>(List.of(s.copy()));
        for (int w = 0; w < s.walkers.size(); w++) {
            if ((set >> w & 1) == 0) {
                continue;
            }
            List<State> more = new ArrayList<>();
            for (State t : all) {
                for (int f = 0; f < 24; f++) {
                    State u = t.copy();
                    u.walkers.get(w).set(f);
                    more.add(u);
                }
            }
            all = more;
        }
        all.removeIf(t -> !t.closed());
        return all;
    }

    int fits(int set) {
        return noSet(set) ? no(1) : ok(ways(set).size());
    }

    int firstFault(int set, int w) {
        if (noSet(set) || noWalker(w)) {
            return no(1);
        }
        List<State> all = ways(set);
        if (all.isEmpty()) {
            return no(6);
        }
        return (set >> w & 1) == 0 ? no(7) : ok(all.get(0).walkers.get(w).fault());
    }

    boolean oddsThat(int set, int w, int fault) {
        if (noSet(set) || noWalker(w) || fault < 0 || fault > 23) {
            return not(1);
        }
        List<State> all = ways(set);
        if (all.isEmpty()) {
            return not(6);
        }
        if ((set >> w & 1) == 0) {
            return not(7);
        }
        return tell(all.stream().filter(t -> t.walkers.get(w).fault() == fault).count(), all.size());
    }

    int ask(int set, int what) {
        if (noSet(set) || what < 0 || what > 1) {
            return no(1);
        }
        List<State> all = ways(set);
        int best = Integer.MAX_VALUE;
        int answer = NONE;
        for (int a = 0; a < s.places.size() && all.size() > 1; a++) {
            for (int b = a + 1; b < s.places.size(); b++) {
                if (!s.joined(a, b)) {
                    continue;
                }
                Map<String, Integer> groups = new HashMap<>();
                for (State t : all) {
                    groups.merge(Arrays.toString(t.offset(a, b)), 1, Integer::sum);
                }
                int most = java.util.Collections.max(groups.values());
                if (most < best) {
                    best = most;
                    answer = what == 0 ? a : b;
                }
            }
        }
        return answer == NONE ? no(6) : ok(answer);
    }

    // ---- ways, areas

    private int bestYards;
    private List<Integer> bestRow;

    private void walk(List<Integer> row, int goal, int yards) {
        int here = row.get(row.size() - 1);
        if (here == goal) {
            if (bestRow == null || yards < bestYards || yards == bestYards && before(row, bestRow)) {
                bestYards = yards;
                bestRow = new ArrayList<>(row);
            }
            return;
        }
        for (Leg l : s.legs) {
            int next = l.from == here ? l.to : l.to == here ? l.from : NONE;
            if (!l.struck && next != NONE && !row.contains(next)) {
                row.add(next);
                walk(row, goal, yards + s.length(l));
                row.remove(row.size() - 1);
            }
        }
    }

    private static boolean before(List<Integer> a, List<Integer> b) {
        for (int i = 0; i < a.size() && i < b.size(); i++) {
            if (!a.get(i).equals(b.get(i))) {
                return a.get(i) < b.get(i);
            }
        }
        return a.size() < b.size();
    }

    private void findWay(int p, int q) {
        bestRow = null;
        walk(new ArrayList<>(List.of(p)), q, 0);
    }

    int way(int p, int q) {
        if (noPlace(p) || noPlace(q) || p == q) {
            return no(1);
        }
        findWay(p, q);
        return bestRow == null ? no(6) : ok(bestYards);
    }

    int wayAt(int p, int q, int k) {
        if (noPlace(p) || noPlace(q) || p == q || k < 0) {
            return no(1);
        }
        findWay(p, q);
        return bestRow == null || k >= bestRow.size() ? no(6) : ok(bestRow.get(k));
    }

    boolean area(int t, int n) {
        if (t < 0 || t > 3 || n < 3 || n > 20) {
            return not(1);
        }
        if (trays[t] == null) {
            return not(2);
        }
        if (trays[t].length < n) {
            return not(3);
        }
        for (int i = 0; i < n; i++) {
            if (trays[t][i] < 0 || trays[t][i] >= s.places.size()) {
                return not(5);
            }
        }
        Map<Integer, int[]> where = s.lies();
        long sum = 0;
        for (int i = 0; i < n; i++) {
            int[] a = where.get((int) trays[t][i]);
            int[] b = where.get((int) trays[t][(i + 1) % n]);
            if (a == null || b == null) {
                return not(6);
            }
            sum += (long) a[0] * b[1] - (long) a[1] * b[0];
        }
        return tell(Math.abs(sum), 2);
    }

    // ---- games, odds

    private int play(State t, int turn, int n, int[] move) {
        if (turn == n) {
            return t.lies().size();
        }
        boolean strikes = turn % 2 == 0;
        int best = NONE;
        int chosen = NONE;
        for (int i = 0; i <= t.legs.size(); i++) {
            int value;
            if (i < t.legs.size()) {
                if (t.legs.get(i).struck == strikes) {
                    continue;
                }
                t.legs.get(i).struck = strikes;
                value = play(t, turn + 1, n, null);
                t.legs.get(i).struck = !strikes;
            } else {
                value = play(t, turn + 1, n, null);
            }
            if (best == NONE || (strikes ? value < best : value > best)) {
                best = value;
                chosen = i;
            }
        }
        if (move != null) {
            move[0] = chosen;
        }
        return best;
    }

    int game(int n) {
        return n < 0 || n > 4 ? no(1) : ok(play(s.copy(), 0, n, null));
    }

    int moveOf(int n) {
        if (n < 1 || n > 4) {
            return no(1);
        }
        int[] move = {NONE};
        play(s.copy(), 0, n, move);
        return move[0] == s.legs.size() ? no(6) : ok(move[0]);
    }

    boolean misread(int n, int k) {
        if (n < 0 || n > 12 || k < 0 || k > 12) {
            return not(1);
        }
        // One leg after the other: row[j] sixteenths of sixteenths .. that j are misread.
        long[] row = new long[14];
        row[0] = 1;
        long all = 1;
        for (int i = 0; i < n; i++) {
            for (int j = 13; j >= 0; j--) {
                row[j] = row[j] * (16 - s.odds) + (j > 0 ? row[j - 1] * s.odds : 0);
            }
            all *= 16;
        }
        long sum = 0;
        for (int j = k; j <= 13; j++) {
            sum += row[j];
        }
        return tell(sum, all);
    }

    boolean share(int w) {
        if (noWalker(w)) {
            return not(1);
        }
        int all = 0;
        int his = 0;
        for (Leg l : s.legs) {
            if (!l.struck) {
                all += s.length(l);
                his += l.walker == w ? s.length(l) : 0;
            }
        }
        return all == 0 ? not(6) : tell(his, all);
    }

    int copyPlaces(int t) {
        if (t < 0 || t > 3) {
            return no(1);
        }
        if (trays[t] == null) {
            return no(2);
        }
        if (trays[t].length < 2 * s.places.size()) {
            return no(3);
        }
        Map<Integer, int[]> where = s.lies();
        if (where.size() < s.places.size()) {
            return no(6);
        }
        for (int p = 0; p < s.places.size(); p++) {
            trays[t][2 * p] = cut(where.get(p)[0], sorts[t]);
            trays[t][2 * p + 1] = cut(where.get(p)[1], sorts[t]);
        }
        return ok(s.places.size());
    }

    // ---- DAYS

    /** Ends the days: by a stop, or by the 300. */
    static final class Halt extends RuntimeException {
        private static final long serialVersionUID = 1;

    }

    private State alive;
    private int drawn;
    private int come;
    private int[] counts;

    private int draw(int n) {
        drawn = (int) (((long) drawn * 3277 + 11505) % 65536);
        return drawn / 8 % n;
    }

    private void run(State t, int seed) {
        alive = t;
        drawn = seed;
        come = 0;
        counts = new int[5];
        try {
            runAll(t.days);
        } catch (Halt h) {
            return;
        }
    }

    private void runAll(List<Step> all) {
        for (Step x : all) {
            if (come == 300) {
                counts[4] = 1;
                throw new Halt();
            }
            come++;
            runOne(x);
        }
    }

    private void runOne(Step x) {
        switch (x.word) {
            case "go" -> doGo(x.number);
            case "strike" -> doSet(x.number, true);
            case "restore" -> doSet(x.number, false);
            case "believe" -> {
                if (alive.walkers.get(x.number).fault() == x.second) {
                    counts[0]++;
                }
                alive.walkers.get(x.number).set(x.second);
            }
            case "any" -> {
                if (alive.legs.isEmpty()) {
                    counts[0]++;
                    return;
                }
                int leg = draw(alive.legs.size());
                int dice = draw(16);
                if (dice < alive.odds) {
                    doSet(leg, !alive.legs.get(leg).struck);
                } else {
                    doGo(leg);
                }
            }
            case "when" -> {
                if (holds(x)) {
                    runAll(x.inside);
                }
            }
            case "loop" -> {
                for (int i = 0; i < x.number; i++) {
                    runAll(x.inside);
                }
            }
            default -> throw new Halt();
        }
    }

    private void doGo(int leg) {
        if (alive.canGo(leg)) {
            alive.go(leg);
            counts[1]++;
        } else {
            counts[0]++;
        }
    }

    private void doSet(int leg, boolean struck) {
        if (leg >= alive.legs.size() || alive.legs.get(leg).struck == struck) {
            counts[0]++;
        } else {
            alive.legs.get(leg).struck = struck;
            counts[struck ? 2 : 3]++;
        }
    }

    private boolean holds(Step x) {
        return switch (x.test) {
            case "at" -> alive.stand == x.number;
            case "closed" -> alive.closed();
            case "misses" -> x.number < alive.legs.size() && alive.misses(alive.legs.get(x.number)) >= 1;
            case "<" -> alive.gone < x.number;
            case ">" -> alive.gone > x.number;
            default -> alive.gone == x.number;
        };
    }

    int live(int seed) {
        if (seed < 0 || seed > 9999) {
            return no(1);
        }
        if (s.days == null) {
            return no(6);
        }
        run(s, seed);
        livedLatest = counts;
        return ok(come);
    }

    int lived(int what) {
        if (what < 0 || what > 4) {
            return no(1);
        }
        return livedLatest == null ? no(6) : ok(livedLatest[what]);
    }

    boolean mean(int seed, int many) {
        if (seed < 0 || seed > 9999 || many < 1 || many > 20 || seed + many - 1 > 9999) {
            return not(1);
        }
        if (s.days == null) {
            return not(6);
        }
        int sum = 0;
        for (int i = 0; i < many; i++) {
            State t = s.copy();
            run(t, seed + i);
            sum += t.lies().size();
        }
        return tell(sum, many);
    }

    int mark() {
        if (marks.size() == 3) {
            return no(4);
        }
        marks.add(s.copy());
        return ok(marks.size());
    }

    int undo() {
        if (marks.isEmpty()) {
            return no(6);
        }
        s = marks.remove(marks.size() - 1);
        return ok(marks.size());
    }
}
