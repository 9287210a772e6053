import java.math.BigInteger;
import java.util.ArrayList;
import java.util.Arrays;
import java.util.Collections;
import java.util.HashMap;
import java.util.List;
import java.util.Map;
import java.util.function.Consumer;
import java.util.function.Function;
import java.util.regex.Matcher;
import java.util.regex.Pattern;

/**
 * The document once more, written apart from the class and in another way (whole states that are
 * copied, tokens by patterns, odds by all cases, sheets that the Java machine itself looks after),
 * so that a slip in one of the two shows.
 */
public final class Model {
    private static final int BAD = -1, STATE = -2, FULL = -3, NONE = -4;
    private static final List<String> KINDS = List.of("plain", "hasty", "back", "late");

    private static final class World {
        List<int[]> wheels = new ArrayList<>();
        int count;
        int carries;

        World copy() {
            World w = new World();
            wheels.forEach(x -> w.wheels.add(x.clone()));
            w.count = count;
            return w;
        }

        boolean carriesAt(int i) {
            int[] x = wheels.get(i);
            int[][] from = {{x[1] - 1}, {x[1] - 1, x[1] - 2}, {0}, {x[1] - 1}};
            return Arrays.stream(from[x[0]]).anyMatch(d -> d == x[2]) && x[2] != x[3];
        }

        int goesTo(int i) {
            int[] x = wheels.get(i);
            int[] step = {1, 2, -1, -1};
            return Math.floorMod(x[2] + step[x[0]], x[1]);
        }

        void hand(int i) {
            if (i >= wheels.size()) {
                return;
            }
            boolean on = carriesAt(i);
            wheels.get(i)[2] = goesTo(i);
            if (on) {
                carries++;
                hand(i + 1);
            }
        }

        World push() {
            count++;
            hand(0);
            return this;
        }

        World behind(int n) {
            World w = copy();
            for (int i = 0; i < n; i++) {
                w.push();
            }
            return w;
        }

        int all() {
            return wheels.stream().mapToInt(x -> x[1]).reduce(1, (a, b) -> a * b);
        }

        int reads() {
            int sum = 0;
            for (int i = wheels.size() - 1; i >= 0; i--) {
                sum = sum * wheels.get(i)[1] + wheels.get(i)[2];
            }
            return sum;
        }

        int error() {
            return Math.abs(reads() - Math.floorMod(count, all()));
        }

        World with(Consumer<World> change) {
            World w = copy();
            change.accept(w);
            return w;
        }
    }

    private static final class Refused extends Exception {
        private static final long serialVersionUID = 1;
        final int fault;
        final int place;

        Refused(int fault, int place) {
            super(null, null, false, false);
            this.fault = fault;
            this.place = place;
        }
    }

    private World now = new World();
    private String tape = "";
    private int fault;
    private int torn;
    private final World[] images = new World[2];
    private final List<int[]> seen = new ArrayList<>();
    private final Object[] sheets = new Object[4];

    private boolean no(int w) {
        return w < 0 || w >= now.wheels.size();
    }

    private static boolean out(int v, int low, int high) {
        return v < low || v > high;
    }

    public int feed(int c) {
        if (out(c, 0, 127)) return BAD;
        if (tape.length() == 160) return FULL;
        tape += (char) c;
        return tape.length();
    }

    public int end(int n) {
        if (out(n, 0, tape.length())) return BAD;
        int had = tape.length();
        tape = tape.substring(0, n);
        return had;
    }

    private static final Pattern TOKEN = Pattern.compile(" *([a-z]+|[0-9]+|;|\\z|.)", Pattern.DOTALL);

    private final class Tokens {
        int at;
        int place;
        String token;

        String next() throws Refused {
            Matcher m = TOKEN.matcher(tape);
            if (!m.find(at)) throw new IllegalStateException();
            at = m.end();
            place = m.start(1);
            token = m.group(1);
            if (!token.isEmpty() && !token.matches("[a-z]+|[0-9]{1,2}|;")) throw new Refused(1, place);
            return token;
        }

        boolean isNumber() {
            return token.matches("[0-9]+");
        }

        int number(int low, int high) throws Refused {
            if (!isNumber()) throw new Refused(2, place);
            int v = Integer.parseInt(token);
            if (out(v, low, high)) throw new Refused(3, place);
            return v;
        }

        void close() throws Refused {
            if (!token.equals(";")) throw new Refused(2, place);
        }
    }

    private int lines(World draft) throws Refused {
        Tokens t = new Tokens();
        int lines = 0;
        boolean counted = false;
        while (!t.next().isEmpty()) {
            int kind = KINDS.indexOf(t.token);
            if (kind >= 0) {
                if (draft.wheels.size() == 5) throw new Refused(5, t.place);
                t.next();
                int teeth = t.number(2, 12);
                t.next();
                int digit = t.number(0, teeth - 1);
                t.next();
                int broken = 12;
                if (t.isNumber()) {
                    broken = t.number(0, teeth - 1);
                    t.next();
                }
                t.close();
                draft.wheels.add(new int[] {kind, teeth, digit, broken});
            } else if (t.token.equals("count")) {
                if (counted) throw new Refused(4, t.place);
                counted = true;
                t.next();
                draft.count = t.number(0, 99);
                t.next();
                t.close();
            } else {
                throw new Refused(2, t.place);
            }
            lines++;
        }
        return lines;
    }

    public int text() {
        World draft = new World();
        int answer;
        try {
            answer = lines(draft);
            fault = 0;
            now = draft;
            seen.clear();
            Arrays.fill(images, null);
        } catch (Refused r) {
            fault = r.fault;
            answer = -10 - r.place;
        }
        tape = "";
        return answer;
    }

    public int fault() {
        return fault;
    }

    public int rule(int what) {
        if (out(what, 0, 5)) return BAD;
        int bits = 0;
        for (int i = 0; i < now.wheels.size(); i++) bits += now.carriesAt(i) ? 1 << i : 0;
        return new int[] {now.wheels.size(), now.count, now.reads(), now.all(), now.error(), bits}[what];
    }

    public int wheel(int w, int what) {
        if (no(w) || out(what, 0, 4)) return BAD;
        return what == 4 ? now.goesTo(w) : now.wheels.get(w)[what];
    }

    private static int alterIn(World world, int w, int what, int v) {
        int[] low = {0, 2, 0, 0};
        int[] high = {3, 12, 11, 12};
        if (w < 0 || w >= world.wheels.size() || out(what, 0, 3) || out(v, low[what], high[what])) return BAD;
        int[] x = world.wheels.get(w).clone();
        int was = x[what];
        x[what] = v;
        if (x[2] >= x[1] || x[3] >= x[1] && x[3] != 12) return STATE;
        world.wheels.set(w, x);
        return was;
    }

    public int alter(int w, int what, int v) {
        return alterIn(now, w, what, v);
    }

    public int add(int kind, int teeth) {
        if (out(kind, 0, 3) || out(teeth, 2, 12)) return BAD;
        if (now.wheels.size() == 5) return FULL;
        now.wheels.add(new int[] {kind, teeth, 0, 12});
        return now.wheels.size();
    }

    public int cut(int n) {
        int were = now.wheels.size();
        if (out(n, 0, were)) return BAD;
        now.wheels = new ArrayList<>(now.wheels.subList(0, n));
        return were;
    }

    public int turn(int w) {
        if (no(w)) return BAD;
        now.hand(w);
        return now.reads();
    }

    public int clear() {
        int was = now.reads();
        now.wheels.forEach(x -> x[2] = 0);
        now.count = 0;
        return was;
    }

    public int pushes(int n) {
        if (out(n, 0, 1000)) return BAD;
        if (now.count + n >= 1000000) return FULL;
        now = now.behind(n);
        return now.reads();
    }

    public int runs(int n, int what) {
        if (out(n, 0, 1000) || out(what, 0, 4)) return BAD;
        World w = now.copy();
        int most = w.reads();
        int zeros = 0;
        for (int i = 0; i < n; i++) {
            w.push();
            most = Math.max(most, w.reads());
            zeros += w.reads() == 0 ? 1 : 0;
        }
        return new int[] {w.reads(), w.carries, most, w.error(), zeros}[what];
    }

    public int ahead(int w, int n) {
        return no(w) || out(n, 0, 1000) ? BAD : now.behind(n).wheels.get(w)[2];
    }

    private int first(int from, Function<World, Boolean> test) {
        World w = now.behind(from);
        for (int i = from; i <= 1000; i++, w.push()) {
            if (test.apply(w)) return i;
        }
        return NONE;
    }

    public int when(int v) {
        return out(v, 0, 248831) ? BAD : first(0, x -> x.reads() == v);
    }

    public int shows(int w, int d) {
        return no(w) || out(d, 0, 11) ? BAD : first(0, x -> x.wheels.get(w)[2] == d);
    }

    public int again() {
        return first(1, x -> x.reads() == now.reads());
    }

    /** The best of several ways: pairs of what it is called and how much it costs. */
    private static int best(List<int[]> ways, int below, int what) {
        int[] best = null;
        for (int[] way : ways) {
            if (way[1] < below && (best == null || way[1] < best[1] || way[1] == best[1] && way[0] < best[0])) best = way;
        }
        return best == null ? NONE : best[what];
    }

    public int mend(int n, int what) {
        if (out(n, 0, 200) || out(what, 0, 1)) return BAD;
        List<int[]> ways = new ArrayList<>();
        for (int i = 0; i < now.wheels.size(); i++) {
            int at = i;
            if (now.wheels.get(i)[3] != 12) ways.add(new int[] {i, now.with(x -> x.wheels.get(at)[3] = 12).behind(n).error()});
        }
        return best(ways, now.behind(n).error(), what);
    }

    public int swap(int n, int what) {
        if (out(n, 0, 200) || out(what, 0, 1)) return BAD;
        List<int[]> ways = new ArrayList<>();
        for (int i = 0; i < now.wheels.size(); i++) {
            for (int j = 0; j < i; j++) {
                int a = i;
                int b = j;
                ways.add(new int[] {10 * j + i, now.with(x -> Collections.swap(x.wheels, a, b)).behind(n).error()});
            }
        }
        return best(ways, now.behind(n).error(), what);
    }

    private int bestPart(int w, int part, int values, Function<World, Integer> cost, int n, int what) {
        List<int[]> ways = new ArrayList<>();
        for (int i = 0; i < values; i++) {
            int v = i;
            ways.add(new int[] {i, cost.apply(now.with(x -> x.wheels.get(w)[part] = v).behind(n))});
        }
        return best(ways, Integer.MAX_VALUE, what);
    }

    public int kind(int w, int n, int what) {
        return no(w) || out(n, 0, 200) || out(what, 0, 1) ? BAD : bestPart(w, 0, 4, World::error, n, what);
    }

    public int begin(int w, int n, int what) {
        return no(w) || out(n, 0, 200) || out(what, 0, 1) ? BAD
            : bestPart(w, 2, now.wheels.get(w)[1], World::error, n, what);
    }

    public int file(int w, int n, int what) {
        return no(w) || out(n, 0, 200) || out(what, 0, 1) ? BAD
            : bestPart(w, 3, now.wheels.get(w)[1], World::reads, n, what);
    }

    /** The mean of a value over all cases of pushes that come or are missed. */
    private long odds(int v, int n, int what, Function<World, Integer> value) {
        BigInteger sum = BigInteger.ZERO;
        for (int cases = 0; cases < 1 << n; cases++) {
            BigInteger weight = BigInteger.ONE;
            World w = now.copy();
            for (int i = 0; i < n; i++) {
                boolean missed = (cases >> i & 1) == 1;
                weight = weight.multiply(BigInteger.valueOf(missed ? v : 10 - v));
                if (!missed) w.push();
            }
            sum = sum.add(weight.multiply(BigInteger.valueOf(value.apply(w))));
        }
        BigInteger all = BigInteger.TEN.pow(n);
        return (what == 0 ? sum : all).divide(sum.gcd(all)).longValueExact();
    }

    public long luck(int v, int w, int d, int n, int what) {
        if (out(v, 0, 10) || no(w) || out(d, 0, 11) || out(n, 0, 8) || out(what, 0, 1)) return BAD;
        return odds(v, n, what, x -> x.wheels.get(w)[2] == d ? 1 : 0);
    }

    public long mean(int v, int n, int what) {
        return out(v, 0, 10) || out(n, 0, 8) || out(what, 0, 1) ? BAD : odds(v, n, what, World::reads);
    }

    public int see(int n, int v) {
        if (out(n, 0, 200) || out(v, 0, 248831)) return BAD;
        if (seen.size() == 6) return FULL;
        seen.add(new int[] {n, v});
        return seen.size();
    }

    public int forget(int n) {
        int were = seen.size();
        if (out(n, 0, were)) return BAD;
        seen.subList(n, were).clear();
        return were;
    }

    private int fitting(int w, int part, int values, boolean none) {
        int bits = 0;
        for (int i = 0; i < 13; i++) {
            int v = i;
            World x = now.with(y -> y.wheels.get(w)[part] = v);
            boolean may = i < values || none && i == 12;
            if (may && seen.stream().allMatch(s -> x.behind(s[0]).reads() == s[1])) bits |= 1 << i;
        }
        return bits;
    }

    public int kinds(int w) {
        return no(w) ? BAD : fitting(w, 0, 4, false);
    }

    public int broken(int w) {
        return no(w) ? BAD : fitting(w, 3, now.wheels.get(w)[1], true);
    }

    public int ask(int w, int what) {
        if (no(w) || out(what, 0, 1)) return BAD;
        int left = broken(w);
        List<World> worlds = new ArrayList<>();
        for (int i = 0; i < 13; i++) {
            int v = i;
            if ((left >> i & 1) == 1) worlds.add(now.with(x -> x.wheels.get(w)[3] = v));
        }
        List<int[]> ways = new ArrayList<>();
        for (int n = 0; n <= 200; n++) {
            Map<Integer, Integer> groups = new HashMap<>();
            worlds.forEach(x -> groups.merge(x.reads(), 1, Integer::sum));
            ways.add(new int[] {n, groups.values().stream().mapToInt(x -> x).max().orElse(0)});
            worlds.forEach(World::push);
        }
        return best(ways, worlds.size(), what);
    }

    public int drift(int seed, int n, int what) {
        if (out(n, 1, 200) || out(what, 0, 1)) return BAD;
        if (now.wheels.isEmpty()) return STATE;
        World w = now.copy();
        BigInteger s = BigInteger.valueOf(seed);
        for (int i = 0; i < n; i++) {
            s = s.multiply(BigInteger.valueOf(1103515245)).add(BigInteger.valueOf(12345));
            int got = s.shiftRight(16).mod(BigInteger.ONE.shiftLeft(15)).intValueExact();
            w.hand(got % w.wheels.size());
        }
        return what == 0 ? w.reads() : w.carries;
    }

    public int keep(int k) {
        if (out(k, 0, 1)) return BAD;
        int was = images[k] == null ? 0 : 1;
        images[k] = now.copy();
        return was;
    }

    public int back(int k) {
        if (out(k, 0, 1)) return BAD;
        if (images[k] == null) return STATE;
        now = images[k].copy();
        return now.count;
    }

    public int sheet(int k, int lane, int n) {
        if (out(k, 0, 3) || out(lane, 0, 2) || n > 40) return BAD;
        try {
            sheets[k] = lane == 0 ? new byte[n] : lane == 1 ? new short[n] : new int[n];
        } catch (NegativeArraySizeException e) {
            return -14;
        }
        return 1;
    }

    private static int machineFault(RuntimeException e) {
        return e instanceof NullPointerException ? 1
            : e instanceof ArrayIndexOutOfBoundsException ? 2
            : e instanceof ClassCastException ? 3 : 99;
    }

    public int lay(int k, int i, int v) {
        if (out(k, 0, 3)) return BAD;
        try {
            if (sheets[k] instanceof byte[]) ((byte[]) sheets[k])[i] = (byte) v;
            else if (sheets[k] instanceof short[]) ((short[]) sheets[k])[i] = (short) v;
            else ((int[]) sheets[k])[i] = v;
        } catch (RuntimeException e) {
            return -10 - machineFault(e);
        }
        return 1;
    }

    private static int cell(Object sheet, int lane, int i) {
        return lane == 0 ? ((byte[]) sheet)[i] : lane == 1 ? ((short[]) sheet)[i] : ((int[]) sheet)[i];
    }

    public int read(int k, int lane, int f, int n) {
        if (out(k, 0, 3) || out(lane, 0, 2) || out(n, 0, 20)) return BAD;
        World w = now.copy();
        int found = 0;
        int came = 0;
        try {
            for (; came < n; came++) {
                int at = cell(sheets[k], lane, f + 2 * came);
                int digit = cell(sheets[k], lane, f + 2 * came + 1);
                if (alterIn(w, at, 2, digit) < 0 || w.count == 999999) return -20 - came;
                w.push();
            }
        } catch (RuntimeException e) {
            found = machineFault(e);
        }
        now = w;
        torn = found;
        return came;
    }

    public int torn() {
        return torn;
    }

    public int count(int what) {
        switch (what) {
            case 0: return seen.size();
            case 1: return (int) Arrays.stream(images).filter(x -> x != null).count();
            case 2: return tape.length();
            case 3: return sheets[0] == null ? NONE : java.lang.reflect.Array.getLength(sheets[0]);
            case 4: return now.wheels.stream().mapToInt(x -> x[1]).sum();
            case 5: return (int) now.wheels.stream().filter(x -> x[3] != 12).count();
            default: return BAD;
        }
    }
}
