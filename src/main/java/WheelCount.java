/** A counter of wheels that turn, carry and break; the document's promises 1 to 38. */
public final class WheelCount {
    public static final int BAD = -1, STATE = -2, FULL = -3, NONE = -4;

    private static final int MOST_WHEELS = 5;
    private static final int MOST_TEETH = 12;
    private static final int UNBROKEN = 12;
    private static final int KINDS = 4;
    private static final int PLAIN = 0, HASTY = 1, BACK = 2, LATE = 3;
    private static final int OF_KIND = 0, OF_TEETH = 1, OF_DIGIT = 2, OF_BROKEN = 3;
    private static final int MOST_READ = 248831;
    private static final int MOST_COUNT = 999999;
    private static final int LONG_RUN = 1000;
    private static final int SHORT_RUN = 200;
    private static final int MOST_MISSED = 8;
    private static final int MOST_SEEN = 6;
    private static final int MOST_READINGS = 20;
    private static final int IMAGES = 2;
    private static final int SHEETS = 4;
    private static final int LANES = 3;

    private final Row now = new Row();
    /** Every question runs on this row, so that the row of now stays as it is. */
    private final Row trial = new Row();
    private final Row[] images = {new Row(), new Row()};
    private final boolean[] imageKept = new boolean[IMAGES];
    private final Teller teller = new Teller();
    private final Tape tape = teller.tape;
    private final Seen seen = new Seen();
    private final Sheet[] sheets = {new Sheet(), new Sheet(), new Sheet(), new Sheet()};
    private int latestTear = Sheet.SOUND;
    /** How many ways in ten to the n lead to so many pushes that were not missed. */
    private final long[] ways = new long[MOST_MISSED + 1];
    private final int[] teethLeft = new int[MOST_TEETH + 1];
    private final int[][] readings = new int[MOST_TEETH + 1][SHORT_RUN + 1];

    public WheelCount() {
    }

    // ---- the text, what there is

    public int feed(int c) {
        if (!within(c, 0, 127)) {
            return BAD;
        }
        if (tape.length >= Tape.ROOM) {
            return FULL;
        }
        tape.bytes[tape.length] = (byte) c;
        tape.length++;
        return tape.length;
    }

    public int end(int n) {
        if (!within(n, 0, tape.length)) {
            return BAD;
        }
        int had = tape.length;
        tape.length = n;
        return had;
    }

    public int text() {
        boolean taken = teller.tell(trial);
        tape.length = 0;
        if (!taken) {
            return -10 - teller.faultPlace;
        }
        now.copyOf(trial);
        seen.size = 0;
        for (int k = 0; k < IMAGES; k++) {
            imageKept[k] = false;
        }
        return teller.lines;
    }

    public int fault() {
        return teller.faultFound;
    }

    public int rule(int what) {
        switch (what) {
            case 0:
                return now.size;
            case 1:
                return now.pushed;
            case 2:
                return now.reading();
            case 3:
                return now.product();
            case 4:
                return now.error();
            case 5:
                return now.carrying();
            default:
                return BAD;
        }
    }

    public int wheel(int w, int what) {
        if (!now.has(w)) {
            return BAD;
        }
        if (what == 4) {
            return now.nextDigit(w);
        }
        return within(what, OF_KIND, OF_BROKEN) ? now.part(w, what) : BAD;
    }

    // ---- what is changed

    public int alter(int w, int what, int v) {
        return now.change(w, what, v);
    }

    public int add(int kind, int teeth) {
        if (!within(kind, 0, KINDS - 1) || !within(teeth, 2, MOST_TEETH)) {
            return BAD;
        }
        if (now.size >= MOST_WHEELS) {
            return FULL;
        }
        now.append(kind, teeth, 0, UNBROKEN);
        return now.size;
    }

    public int cut(int n) {
        if (!within(n, 0, now.size)) {
            return BAD;
        }
        int were = now.size;
        now.size = n;
        return were;
    }

    public int turn(int w) {
        if (!now.has(w)) {
            return BAD;
        }
        now.turnFrom(w);
        return now.reading();
    }

    public int clear() {
        int was = now.reading();
        for (int w = 0; w < now.size; w++) {
            now.digit[w] = 0;
        }
        now.pushed = 0;
        return was;
    }

    // ---- pushes

    public int pushes(int n) {
        if (!within(n, 0, LONG_RUN)) {
            return BAD;
        }
        if (now.pushed + n > MOST_COUNT) {
            return FULL;
        }
        now.push(n);
        return now.reading();
    }

    public int runs(int n, int what) {
        if (!within(n, 0, LONG_RUN) || !within(what, 0, 4)) {
            return BAD;
        }
        trial.copyOf(now);
        int most = trial.reading();
        int zeros = 0;
        for (int i = 0; i < n; i++) {
            trial.pushOnce();
            if (what == 2) {
                most = Math.max(most, trial.reading());
            } else if (what == 4 && trial.isAllZero()) {
                zeros++;
            }
        }
        switch (what) {
            case 0:
                return trial.reading();
            case 1:
                return trial.carried;
            case 2:
                return most;
            case 3:
                return trial.error();
            default:
                return zeros;
        }
    }

    public int ahead(int w, int n) {
        if (!now.has(w) || !within(n, 0, LONG_RUN)) {
            return BAD;
        }
        trial.copyOf(now);
        trial.push(n);
        return trial.digit[w];
    }

    public int when(int v) {
        if (!within(v, 0, MOST_READ)) {
            return BAD;
        }
        trial.copyOf(now);
        for (int i = 0; i <= LONG_RUN; i++) {
            if (trial.reading() == v) {
                return i;
            }
            trial.pushOnce();
        }
        return NONE;
    }

    public int shows(int w, int d) {
        if (!now.has(w) || !within(d, 0, MOST_TEETH - 1)) {
            return BAD;
        }
        trial.copyOf(now);
        for (int i = 0; i <= LONG_RUN; i++) {
            if (trial.digit[w] == d) {
                return i;
            }
            trial.pushOnce();
        }
        return NONE;
    }

    public int again() {
        trial.copyOf(now);
        for (int i = 1; i <= LONG_RUN; i++) {
            trial.pushOnce();
            if (trial.showsAs(now)) {
                return i;
            }
        }
        return NONE;
    }

    // ---- what is best

    public int mend(int n, int what) {
        if (!within(n, 0, SHORT_RUN) || !within(what, 0, 1)) {
            return BAD;
        }
        trial.copyOf(now);
        int least = trialErrorBehind(n);
        int best = NONE;
        for (int w = 0; w < now.size; w++) {
            tryPart(w, OF_BROKEN, UNBROKEN);
            int error = trialErrorBehind(n);
            if (error < least) {
                least = error;
                best = w;
            }
        }
        return best == NONE || what == 0 ? best : least;
    }

    public int swap(int n, int what) {
        if (!within(n, 0, SHORT_RUN) || !within(what, 0, 1)) {
            return BAD;
        }
        trial.copyOf(now);
        int least = trialErrorBehind(n);
        int best = NONE;
        for (int lesser = 0; lesser < now.size; lesser++) {
            for (int greater = lesser + 1; greater < now.size; greater++) {
                trial.copyOf(now);
                trial.exchange(lesser, greater);
                int error = trialErrorBehind(n);
                if (error < least) {
                    least = error;
                    best = 10 * lesser + greater;
                }
            }
        }
        return best == NONE || what == 0 ? best : least;
    }

    public int kind(int w, int n, int what) {
        return bestPart(w, OF_KIND, n, what);
    }

    public int begin(int w, int n, int what) {
        return bestPart(w, OF_DIGIT, n, what);
    }

    public int file(int w, int n, int what) {
        return bestPart(w, OF_BROKEN, n, what);
    }

    // ---- pushes that are missed

    public long luck(int v, int w, int d, int n, int what) {
        if (!within(v, 0, 10) || !now.has(w) || !within(d, 0, MOST_TEETH - 1)
                || !within(n, 0, MOST_MISSED) || !within(what, 0, 1)) {
            return BAD;
        }
        long all = countWays(v, n);
        long fitting = 0;
        trial.copyOf(now);
        for (int i = 0; i <= n; i++) {
            if (trial.digit[w] == d) {
                fitting += ways[i];
            }
            trial.pushOnce();
        }
        return partOfFraction(fitting, all, what);
    }

    public long mean(int v, int n, int what) {
        if (!within(v, 0, 10) || !within(n, 0, MOST_MISSED) || !within(what, 0, 1)) {
            return BAD;
        }
        long all = countWays(v, n);
        long sum = 0;
        trial.copyOf(now);
        for (int i = 0; i <= n; i++) {
            sum += ways[i] * trial.reading();
            trial.pushOnce();
        }
        return partOfFraction(sum, all, what);
    }

    // ---- what was read

    public int see(int n, int v) {
        if (!within(n, 0, SHORT_RUN) || !within(v, 0, MOST_READ)) {
            return BAD;
        }
        if (seen.size >= MOST_SEEN) {
            return FULL;
        }
        seen.behind[seen.size] = n;
        seen.reads[seen.size] = v;
        seen.size++;
        return seen.size;
    }

    public int forget(int n) {
        if (!within(n, 0, seen.size)) {
            return BAD;
        }
        int were = seen.size;
        seen.size = n;
        return were;
    }

    public int kinds(int w) {
        if (!now.has(w)) {
            return BAD;
        }
        int bits = 0;
        for (int kind = 0; kind < KINDS; kind++) {
            if (fitsWith(w, OF_KIND, kind)) {
                bits |= 1 << kind;
            }
        }
        return bits;
    }

    public int broken(int w) {
        if (!now.has(w)) {
            return BAD;
        }
        int bits = fitsWith(w, OF_BROKEN, UNBROKEN) ? 1 << UNBROKEN : 0;
        for (int tooth = 0; tooth < now.teeth[w]; tooth++) {
            if (fitsWith(w, OF_BROKEN, tooth)) {
                bits |= 1 << tooth;
            }
        }
        return bits;
    }

    public int ask(int w, int what) {
        if (!now.has(w) || !within(what, 0, 1)) {
            return BAD;
        }
        int left = listTeethLeft(broken(w));
        for (int i = 0; i < left; i++) {
            fillReadings(w, teethLeft[i], readings[i]);
        }
        int fewest = left;
        int best = NONE;
        for (int behind = 0; behind <= SHORT_RUN; behind++) {
            int worst = mostAlike(behind, left);
            if (worst < fewest) {
                fewest = worst;
                best = behind;
            }
        }
        return best == NONE || what == 0 ? best : fewest;
    }

    // ---- by a seed

    public int drift(int seed, int n, int what) {
        if (!within(n, 1, SHORT_RUN) || !within(what, 0, 1)) {
            return BAD;
        }
        if (now.size == 0) {
            return STATE;
        }
        trial.copyOf(now);
        int next = seed;
        for (int i = 0; i < n; i++) {
            next = next * 1103515245 + 12345;
            int got = (next >>> 16) & 0x7fff;
            trial.turnFrom(got % now.size);
        }
        return what == 0 ? trial.reading() : trial.carried;
    }

    // ---- images, sheets

    public int keep(int k) {
        if (!within(k, 0, IMAGES - 1)) {
            return BAD;
        }
        int was = imageKept[k] ? 1 : 0;
        images[k].copyOf(now);
        imageKept[k] = true;
        return was;
    }

    public int back(int k) {
        if (!within(k, 0, IMAGES - 1)) {
            return BAD;
        }
        if (!imageKept[k]) {
            return STATE;
        }
        now.copyOf(images[k]);
        return now.pushed;
    }

    public int sheet(int k, int lane, int n) {
        if (!within(k, 0, SHEETS - 1) || !within(lane, 0, LANES - 1) || n > Sheet.ROOM) {
            return BAD;
        }
        if (n < 0) {
            return -10 - Sheet.SIZE;
        }
        sheets[k].renew(lane, n);
        return 1;
    }

    public int lay(int k, int i, int v) {
        if (!within(k, 0, SHEETS - 1)) {
            return BAD;
        }
        int found = sheets[k].faultAt(sheets[k].lane, i);
        if (found != Sheet.SOUND) {
            return -10 - found;
        }
        sheets[k].put(i, v);
        return 1;
    }

    public int read(int k, int lane, int f, int n) {
        if (!within(k, 0, SHEETS - 1) || !within(lane, 0, LANES - 1)
                || !within(n, 0, MOST_READINGS)) {
            return BAD;
        }
        Sheet from = sheets[k];
        trial.copyOf(now);
        int found = Sheet.SOUND;
        int came = 0;
        while (came < n) {
            int cell = f + 2 * came;
            found = from.faultAtPair(lane, cell);
            if (found != Sheet.SOUND) {
                break;
            }
            if (!trial.takeDigitAndPush(from.cells[cell], from.cells[cell + 1])) {
                return -20 - came;
            }
            came++;
        }
        now.copyOf(trial);
        latestTear = found;
        return came;
    }

    public int torn() {
        return latestTear;
    }

    public int count(int what) {
        switch (what) {
            case 0:
                return seen.size;
            case 1:
                return (imageKept[0] ? 1 : 0) + (imageKept[1] ? 1 : 0);
            case 2:
                return tape.length;
            case 3:
                return sheets[0].laid ? sheets[0].size : NONE;
            case 4:
                return now.teethInAll();
            case 5:
                return now.brokenInAll();
            default:
                return BAD;
        }
    }

    // ---- what the calls share

    private static boolean within(int v, int least, int most) {
        return v >= least && v <= most;
    }

    /** The trial is as it would be now, if a part of a wheel were v. */
    private void tryPart(int w, int part, int v) {
        trial.copyOf(now);
        trial.set(w, part, v);
    }

    private int trialErrorBehind(int n) {
        trial.push(n);
        return trial.error();
    }

    /** Which of its values a part of a wheel had better have (what 0), and at what cost. */
    private int bestPart(int w, int part, int n, int what) {
        if (!now.has(w) || !within(n, 0, SHORT_RUN) || !within(what, 0, 1)) {
            return BAD;
        }
        int values = part == OF_KIND ? KINDS : now.teeth[w];
        // Neither what it reads nor the error is ever as much: the first value is taken.
        int least = MOST_READ + 1;
        int best = 0;
        for (int v = 0; v < values; v++) {
            tryPart(w, part, v);
            trial.push(n);
            // A tooth is broken for what it reads, all else is for the error.
            int cost = part == OF_BROKEN ? trial.reading() : trial.error();
            if (cost < least) {
                least = cost;
                best = v;
            }
        }
        return what == 0 ? best : least;
    }

    private boolean fitsWith(int w, int part, int v) {
        tryPart(w, part, v);
        return seen.fits(trial);
    }

    /** Fills ways for n pushes, each missed by v out of ten; answers ten to the n. */
    private long countWays(int v, int n) {
        long all = 1;
        ways[0] = 1;
        for (int i = 1; i <= n; i++) {
            ways[i] = 0;
            for (int turned = i; turned > 0; turned--) {
                ways[turned] = ways[turned] * v + ways[turned - 1] * (10 - v);
            }
            ways[0] *= v;
            all *= 10;
        }
        return all;
    }

    /** The upper (what 0) or lower number of a fraction in lowest terms. */
    private static long partOfFraction(long upper, long lower, int what) {
        long divisor = lower;
        long rest = upper;
        // Euclid's steps over longs are fewer than a hundred.
        for (int i = 0; i < 100 && rest != 0; i++) {
            long next = divisor % rest;
            divisor = rest;
            rest = next;
        }
        long part = what == 0 ? upper : lower;
        return divisor > 0 ? part / divisor : part;
    }

    /** Fills teethLeft with the places of the bits; answers how many there are. */
    private int listTeethLeft(int bits) {
        int left = 0;
        for (int tooth = 0; tooth <= UNBROKEN; tooth++) {
            if ((bits >> tooth & 1) == 1) {
                teethLeft[left] = tooth;
                left++;
            }
        }
        return left;
    }

    private void fillReadings(int w, int tooth, int[] behind) {
        tryPart(w, OF_BROKEN, tooth);
        for (int i = 0; i <= SHORT_RUN; i++) {
            behind[i] = trial.reading();
            trial.pushOnce();
        }
    }

    /** How many of the first rows of readings have the same one there, at the most. */
    private int mostAlike(int behind, int rows) {
        int most = 0;
        // The rows from first on are too few to beat the most, once it is as many.
        for (int first = 0; first + most < rows; first++) {
            int alike = 1;
            for (int other = first + 1; other < rows; other++) {
                if (readings[other][behind] == readings[first][behind]) {
                    alike++;
                }
            }
            most = Math.max(most, alike);
        }
        return most;
    }

    /** WHEELS in their order, and COUNT: all that an image keeps. */
    private static final class Row {
        private int size;
        private int pushed;
        private int carried;
        private final int[] kind = new int[MOST_WHEELS];
        private final int[] teeth = new int[MOST_WHEELS];
        private final int[] digit = new int[MOST_WHEELS];
        private final int[] broken = new int[MOST_WHEELS];

        private boolean has(int w) {
            return within(w, 0, size - 1);
        }

        private int part(int w, int what) {
            switch (what) {
                case OF_KIND:
                    return kind[w];
                case OF_TEETH:
                    return teeth[w];
                case OF_DIGIT:
                    return digit[w];
                default:
                    return broken[w];
            }
        }

        private int change(int w, int what, int v) {
            if (!has(w) || !within(what, OF_KIND, OF_BROKEN) || !mayEverBe(what, v)) {
                return BAD;
            }
            if (!mayBe(w, what, v)) {
                return STATE;
            }
            int was = part(w, what);
            set(w, what, v);
            return was;
        }

        private void set(int w, int what, int v) {
            switch (what) {
                case OF_KIND:
                    kind[w] = v;
                    break;
                case OF_TEETH:
                    teeth[w] = v;
                    break;
                case OF_DIGIT:
                    digit[w] = v;
                    break;
                default:
                    broken[w] = v;
                    break;
            }
        }

        private static boolean mayEverBe(int what, int v) {
            switch (what) {
                case OF_KIND:
                    return within(v, 0, KINDS - 1);
                case OF_TEETH:
                    return within(v, 2, MOST_TEETH);
                case OF_DIGIT:
                    return within(v, 0, MOST_TEETH - 1);
                default:
                    return within(v, 0, UNBROKEN);
            }
        }

        private boolean mayBe(int w, int what, int v) {
            switch (what) {
                case OF_TEETH:
                    return v > digit[w] && (broken[w] == UNBROKEN || v > broken[w]);
                case OF_DIGIT:
                    return v < teeth[w];
                case OF_BROKEN:
                    return v == UNBROKEN || v < teeth[w];
                default:
                    return true;
            }
        }

        private void append(int ofKind, int withTeeth, int showing, int brokenAt) {
            if (size >= MOST_WHEELS) {
                return;
            }
            kind[size] = ofKind;
            teeth[size] = withTeeth;
            digit[size] = showing;
            broken[size] = brokenAt;
            size++;
        }

        /** Becomes as the other row is; nothing has been carried in it yet. */
        private void copyOf(Row other) {
            size = other.size;
            pushed = other.pushed;
            carried = 0;
            for (int w = 0; w < size; w++) {
                kind[w] = other.kind[w];
                teeth[w] = other.teeth[w];
                digit[w] = other.digit[w];
                broken[w] = other.broken[w];
            }
        }

        private void exchange(int one, int other) {
            exchangeIn(kind, one, other);
            exchangeIn(teeth, one, other);
            exchangeIn(digit, one, other);
            exchangeIn(broken, one, other);
        }

        private static void exchangeIn(int[] parts, int one, int other) {
            int part = parts[one];
            parts[one] = parts[other];
            parts[other] = part;
        }

        private int nextDigit(int w) {
            int from = digit[w];
            switch (kind[w]) {
                case PLAIN:
                    return from + 1 < teeth[w] ? from + 1 : 0;
                case HASTY:
                    return from + 2 < teeth[w] ? from + 2 : from + 2 - teeth[w];
                default:
                    return from > 0 ? from - 1 : teeth[w] - 1;
            }
        }

        private boolean wouldCarry(int w) {
            int from = digit[w];
            if (from == broken[w]) {
                return false;
            }
            switch (kind[w]) {
                case HASTY:
                    return from >= teeth[w] - 2;
                case BACK:
                    return from == 0;
                default:
                    return from == teeth[w] - 1;
            }
        }

        private void turnFrom(int w) {
            boolean goesOn = true;
            for (int i = w; goesOn && i < size; i++) {
                goesOn = wouldCarry(i);
                digit[i] = nextDigit(i);
                if (goesOn) {
                    carried++;
                }
            }
        }

        private void pushOnce() {
            pushed++;
            turnFrom(0);
        }

        private void push(int n) {
            for (int i = 0; i < n; i++) {
                pushOnce();
            }
        }

        /** Whether the wheel could be given the digit, and the push came behind it. */
        private boolean takeDigitAndPush(int w, int showing) {
            if (change(w, OF_DIGIT, showing) < 0 || pushed >= MOST_COUNT) {
                return false;
            }
            pushOnce();
            return true;
        }

        private int reading() {
            int sum = 0;
            int weight = 1;
            for (int w = 0; w < size; w++) {
                sum += weight * digit[w];
                weight *= teeth[w];
            }
            return sum;
        }

        private int product() {
            int all = 1;
            for (int w = 0; w < size; w++) {
                all *= teeth[w];
            }
            return all;
        }

        private int error() {
            int all = product();
            int due = all > 0 ? pushed % all : 0;
            return Math.abs(reading() - due);
        }

        private int carrying() {
            int bits = 0;
            for (int w = 0; w < size; w++) {
                if (wouldCarry(w)) {
                    bits |= 1 << w;
                }
            }
            return bits;
        }

        private boolean isAllZero() {
            for (int w = 0; w < size; w++) {
                if (digit[w] != 0) {
                    return false;
                }
            }
            return true;
        }

        private boolean showsAs(Row other) {
            for (int w = 0; w < size; w++) {
                if (digit[w] != other.digit[w]) {
                    return false;
                }
            }
            return true;
        }

        private int teethInAll() {
            int sum = 0;
            for (int w = 0; w < size; w++) {
                sum += teeth[w];
            }
            return sum;
        }

        private int brokenInAll() {
            int sum = 0;
            for (int w = 0; w < size; w++) {
                if (broken[w] != UNBROKEN) {
                    sum++;
                }
            }
            return sum;
        }
    }

    private static final class Tape {
        private static final int ROOM = 160;
        private final byte[] bytes = new byte[ROOM];
        private int length;
    }

    /** Reads the tape token by token; what it tells comes into a draft. */
    private static final class Teller {
        private static final int NO_FAULT = 0, NO_TOKEN = 1, MISPLACED = 2;
        private static final int OUT_OF_BOUNDS = 3, SECOND_COUNT = 4, SIXTH_WHEEL = 5;
        private static final int AT_END = 0, NAME = 1, NUMBER = 2, SEMICOLON = 3;

        private final Tape tape = new Tape();
        private int faultFound = NO_FAULT;
        private int faultPlace;
        private int lines;
        private boolean counted;
        /** The token that was read last: what it is, from where, up to where, how much. */
        private int token;
        private int start;
        private int stop;
        private int value;

        private boolean tell(Row draft) {
            draft.size = 0;
            draft.pushed = 0;
            faultFound = NO_FAULT;
            lines = 0;
            counted = false;
            stop = 0;
            // No line is shorter than a byte: the tape ends within so many lines.
            for (int i = 0; i <= tape.length; i++) {
                if (!nextToken()) {
                    return false;
                }
                if (token == AT_END) {
                    return true;
                }
                if (!tellLine(draft)) {
                    return false;
                }
                lines++;
            }
            return true;
        }

        private boolean tellLine(Row draft) {
            if (token != NAME) {
                return fail(MISPLACED);
            }
            if (isName("count")) {
                return tellCount(draft);
            }
            int kind = kindNamed();
            return kind == NONE ? fail(MISPLACED) : tellWheel(draft, kind);
        }

        private boolean tellCount(Row draft) {
            if (counted) {
                return fail(SECOND_COUNT);
            }
            counted = true;
            if (!nextNumber(0, 99)) {
                return false;
            }
            draft.pushed = value;
            return nextToken() && lineEnds();
        }

        private boolean tellWheel(Row draft, int kind) {
            if (draft.size >= MOST_WHEELS) {
                return fail(SIXTH_WHEEL);
            }
            if (!nextNumber(2, MOST_TEETH)) {
                return false;
            }
            int teeth = value;
            if (!nextNumber(0, teeth - 1)) {
                return false;
            }
            int digit = value;
            int broken = UNBROKEN;
            if (!nextToken()) {
                return false;
            }
            if (token == NUMBER) {
                if (value >= teeth) {
                    return fail(OUT_OF_BOUNDS);
                }
                broken = value;
                if (!nextToken()) {
                    return false;
                }
            }
            draft.append(kind, teeth, digit, broken);
            return lineEnds();
        }

        private boolean nextNumber(int least, int most) {
            if (!nextToken()) {
                return false;
            }
            if (token != NUMBER) {
                return fail(MISPLACED);
            }
            return within(value, least, most) || fail(OUT_OF_BOUNDS);
        }

        private boolean lineEnds() {
            return token == SEMICOLON || fail(MISPLACED);
        }

        private boolean nextToken() {
            start = stop;
            while (start < tape.length && tape.bytes[start] == ' ') {
                start++;
            }
            if (start >= tape.length) {
                token = AT_END;
                return true;
            }
            int first = tape.bytes[start];
            if (first == ';') {
                token = SEMICOLON;
                stop = start + 1;
                return true;
            }
            if (within(first, 'a', 'z')) {
                token = NAME;
                stop = endOfRun('a', 'z');
                return true;
            }
            if (!within(first, '0', '9')) {
                return fail(NO_TOKEN);
            }
            token = NUMBER;
            stop = endOfRun('0', '9');
            value = valueOfFigures();
            return stop - start <= 2 || fail(NO_TOKEN);
        }

        private int valueOfFigures() {
            int sum = 0;
            for (int i = start; i < stop; i++) {
                sum = 10 * sum + tape.bytes[i] - '0';
            }
            return sum;
        }

        private int endOfRun(int least, int most) {
            int place = start;
            while (place < tape.length && within(tape.bytes[place], least, most)) {
                place++;
            }
            return place;
        }

        private int kindNamed() {
            if (isName("plain")) {
                return PLAIN;
            }
            if (isName("hasty")) {
                return HASTY;
            }
            if (isName("back")) {
                return BACK;
            }
            return isName("late") ? LATE : NONE;
        }

        private boolean isName(String name) {
            if (stop - start != name.length()) {
                return false;
            }
            for (int i = 0; i < name.length(); i++) {
                if (tape.bytes[start + i] != name.charAt(i)) {
                    return false;
                }
            }
            return true;
        }

        /** The fault is at the token that was read last; answers false always. */
        private boolean fail(int found) {
            faultFound = found;
            faultPlace = start;
            return false;
        }
    }

    /** What it READS behind so many pushes from now on, as somebody has seen it. */
    private static final class Seen {
        private int size;
        private final int[] behind = new int[MOST_SEEN];
        private final int[] reads = new int[MOST_SEEN];

        /** Whether a row reads what was seen; the row is pushed on by that. */
        private boolean fits(Row row) {
            int last = 0;
            for (int i = 0; i < size; i++) {
                last = Math.max(last, behind[i]);
            }
            for (int pushes = 0; pushes <= last; pushes++) {
                if (isAgainst(pushes, row)) {
                    return false;
                }
                row.pushOnce();
            }
            return true;
        }

        private boolean isAgainst(int pushes, Row row) {
            for (int i = 0; i < size; i++) {
                if (behind[i] == pushes && reads[i] != row.reading()) {
                    return true;
                }
            }
            return false;
        }
    }

    /** A row of cells, or nothing; its faults are those that the machine would find. */
    private static final class Sheet {
        private static final int SOUND = 0, NULL = 1, INDEX = 2, CAST = 3, SIZE = 4;
        private static final int BYTES = 0, SHORTS = 1;
        private static final int ROOM = 40;

        private boolean laid;
        private int lane;
        private int size;
        private final int[] cells = new int[ROOM];

        private void renew(int ofLane, int ofSize) {
            laid = true;
            lane = ofLane;
            size = ofSize;
            for (int i = 0; i < ROOM; i++) {
                cells[i] = 0;
            }
        }

        private int faultAt(int asLane, int i) {
            if (!laid) {
                return NULL;
            }
            if (asLane != lane) {
                return CAST;
            }
            return within(i, 0, size - 1) ? SOUND : INDEX;
        }

        private int faultAtPair(int asLane, int i) {
            int found = faultAt(asLane, i);
            return found == SOUND ? faultAt(asLane, i + 1) : found;
        }

        private void put(int i, int v) {
            switch (lane) {
                case BYTES:
                    cells[i] = (byte) v;
                    break;
                case SHORTS:
                    cells[i] = (short) v;
                    break;
                default:
                    cells[i] = v;
                    break;
            }
        }
    }
}
