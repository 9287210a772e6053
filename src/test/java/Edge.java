import java.util.ArrayList;
import java.util.List;
import java.util.function.Function;

/**
 * Boundaries: what is refused answers so and changes nothing. To look at all of an object changes it
 * (the tape is told, an image comes back), so every look is at a twin that was made and called alike.
 */
final class Edge {
    interface Maker {
        WheelCount make();
    }

    interface Call {
        long on(WheelCount x);
    }

    interface CallBy {
        long on(WheelCount x, int v);
    }

    private static final List<Function<WheelCount, String>> LOOKS = List.of(
        Edge::stands, Edge::seen, x -> image(x, 0), x -> image(x, 1), Edge::tape,
        x -> sheet(x, 0), x -> sheet(x, 1), x -> sheet(x, 2), x -> sheet(x, 3));

    private final Due due;
    private final Maker maker;
    private final List<String> before = new ArrayList<>();

    Edge(Due due, Maker maker) {
        this.due = due;
        this.maker = maker;
        LOOKS.forEach(look -> before.add(look.apply(maker.make())));
    }

    /** A call, refused or a question, that has this answer and changes nothing. */
    void stays(String name, Call call, long want) {
        for (int i = 0; i < LOOKS.size(); i++) {
            WheelCount x = maker.make();
            due.is(name, call.on(x), want);
            String then = LOOKS.get(i).apply(x);
            due.holds(name + " changes nothing: " + before.get(i) + " | " + then, before.get(i).equals(then));
        }
    }

    /** A number is as told from low to high; just below, just above, and far off it is BAD. */
    void bounds(String name, int low, int high, CallBy call) {
        int[] bad = {low - 1, high + 1, Integer.MIN_VALUE, Integer.MAX_VALUE};
        for (int v : bad) {
            stays(name + " by " + v, x -> call.on(x, v), WheelCount.BAD);
        }
        due.holds(name + " by " + low + " is not BAD", call.on(maker.make(), low) != WheelCount.BAD);
        due.holds(name + " by " + high + " is not BAD", call.on(maker.make(), high) != WheelCount.BAD);
    }

    private static String stands(WheelCount x) {
        StringBuilder s = new StringBuilder(Due.state(x)).append(" fault ").append(x.fault());
        for (int what = 0; what <= 4; what++) {
            s.append(' ').append(x.runs(33, what));
        }
        return s.toString();
    }

    /** SEEN is taken away from behind: what is told from the rest shows each of them. */
    private static String seen(WheelCount x) {
        StringBuilder s = new StringBuilder("seen");
        for (int n = x.count(0); n >= 0; n--) {
            s.append(' ').append(x.forget(n));
            for (int w = 0; w < x.rule(0); w++) {
                s.append(' ').append(x.kinds(w)).append(' ').append(x.broken(w));
            }
        }
        return s.toString();
    }

    private static String image(WheelCount x, int k) {
        return "image " + x.back(k) + ' ' + Due.row(x);
    }

    private static String tape(WheelCount x) {
        return "tape " + x.text() + ' ' + x.fault() + ' ' + Due.row(x);
    }

    /** Every pair of CELLS is read by wheels that have all DIGITS; then CELLS are laid, to count them. */
    private static String sheet(WheelCount x, int k) {
        StringBuilder s = new StringBuilder("sheet");
        x.cut(0);
        for (int i = 0; i < 5; i++) {
            x.add(0, 12);
        }
        int lane = laneOf(x, k);
        s.append(" lane ").append(lane);
        for (int f = 0; lane >= 0 && f < 40; f++) {
            s.append(' ').append(x.read(k, lane, f, 1)).append(' ').append(x.rule(2));
        }
        for (int i = 0; i <= 40; i++) {
            s.append(' ').append(x.lay(k, i, 0));
        }
        return s.toString();
    }

    private static int laneOf(WheelCount x, int k) {
        for (int lane = 0; lane < 3; lane++) {
            x.read(k, lane, -1, 1);
            if (x.torn() == 2) {
                return lane;
            }
        }
        return -1;
    }

    /** Something of everything, with room for more: no call is refused but for its numbers. */
    static WheelCount rich() {
        WheelCount x = Due.told("hasty 6 4 5;plain 5 3;late 4 2 1;back 3 0;count 37;");
        x.keep(0);
        x.pushes(3);
        x.keep(1);
        Due.write(x, "plain 2 9;");
        x.text();
        for (int n = 0; n <= 40; n += 20) {
            x.see(n, x.runs(n, 0));
        }
        int[] sizes = {6, 5, 4};
        for (int k = 0; k < sizes.length; k++) {
            x.sheet(k, k, sizes[k]);
            for (int i = 0; i < sizes[k]; i++) {
                x.lay(k, i, 1 + (i + k) % 3);
            }
        }
        x.read(0, 0, 5, 1);
        Due.write(x, "late 5");
        return x;
    }

    /** Of everything as much as there may be, but for COUNT. */
    static WheelCount full() {
        WheelCount x = Due.told("plain 12 9 10;hasty 12 4 2;back 12 1 5;late 12 0 0;plain 12 11 11;count 99;");
        x.keep(0);
        x.turn(2);
        x.keep(1);
        for (int n = 0; n < 6; n++) {
            x.see(40 * n, x.runs(40 * n, 0));
        }
        x.sheet(0, 2, 40);
        for (int i = 0; i < 40; i++) {
            x.lay(0, i, 1 + i % 4);
        }
        Due.write(x, "late 5 4;");
        Due.write(x, " ".repeat(160 - x.count(2)));
        return x;
    }
}
