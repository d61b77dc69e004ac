import java.math.BigInteger;
import java.util.ArrayList;
import java.util.Arrays;
import java.util.Iterator;
import java.util.List;
import java.util.Map;
import java.util.TreeMap;

/**
 * Long runs of calls, the same each time, against a model that follows the document word by word:
 * it writes down what every TICK lasts and when it BEGINS, and looks through all of them.
 */
public final class ModelTest {
    private static final int RUNS = 120;
    private static final int CALLS = 512;

    private static int wrong = 0;

    public static void main(String[] args) {
        for (int run = 0; run < RUNS; run++) {
            new Run(run).play();
        }
        System.out.println(wrong == 0 ? "all answers are as due" : wrong + " answers are not as due");
        if (wrong != 0) {
            System.exit(1);
        }
    }

    private static final class Model {
        static final int LAST = 1000000;
        final TreeMap<Integer, int[]> marks = new TreeMap<>();
        final TreeMap<Integer, Integer> holds = new TreeMap<>();
        final List<Long> taps = new ArrayList<>();
        private final int[] lasts = new int[LAST];
        private final long[] begins = new long[LAST + 1];
        private boolean written = false;

        private void write() {
            if (written) {
                return;
            }
            written = true;
            long now = 0;
            int[] mark = null;
            Iterator<int[]> ahead = marks.values().iterator();
            int[] next = ahead.hasNext() ? ahead.next() : null;
            for (int t = 0; t < LAST; t++) {
                if (next != null && next[0] == t) {
                    mark = next;
                    next = ahead.hasNext() ? ahead.next() : null;
                }
                lasts[t] = ofMark(mark, t);
            }
            Arrays.fill(begins, 0);
            holds.forEach((t, units) -> begins[t] = units);
            for (int t = 0; t <= LAST; t++) {
                now += begins[t];
                begins[t] = now;
                now += t < LAST ? lasts[t] : 0;
            }
        }

        private static int ofMark(int[] mark, int t) {
            if (mark == null) {
                return 1000;
            }
            int n = mark[1];
            int k = t - mark[0];
            if (k >= n) {
                return mark[3];
            }
            BigInteger[] parts = BigInteger.valueOf(mark[3] - mark[2])
                    .multiply(BigInteger.valueOf(k)).divideAndRemainder(BigInteger.valueOf(n));
            return mark[2] + parts[0].intValue() - (parts[1].signum() < 0 ? 1 : 0);
        }

        private static boolean out(long x, long least, long most) {
            return x < least || x > most;
        }

        private boolean insideSlope(int tick) {
            for (int[] m : marks.values()) {
                if (m[0] < tick && tick < m[0] + m[1]) {
                    return true;
                }
            }
            return false;
        }

        private int put(int tick, int n, int p, int q) {
            if (!marks.containsKey(tick) && marks.size() == 40) {
                return -4;
            }
            marks.put(tick, new int[] {tick, n, p, q});
            written = false;
            return marks.size();
        }

        int step(int tick, int p) {
            if (out(tick, 0, 999999) || out(p, 1, 1000000)) {
                return -2;
            }
            return insideSlope(tick) ? -3 : put(tick, 0, p, p);
        }

        int slope(int tick, int n, int p, int q) {
            if (out(tick, 0, 999999) || out(n, 1, 2000) || out(p, 1, 1000000) || out(q, 1, 1000000)
                    || (long) tick + n > LAST) {
                return -2;
            }
            boolean free = marks.subMap(tick, false, tick + n, false).isEmpty();
            return insideSlope(tick) || !free ? -3 : put(tick, n, p, q);
        }

        int modulate(int tick, int u, int v) {
            if (out(tick, 1, 999999) || out(u, 1, 1000) || out(v, 1, 1000)) {
                return -2;
            }
            Map.Entry<Integer, int[]> ruler = marks.floorEntry(tick - 1);
            long pace = (long) ofMark(ruler == null ? null : ruler.getValue(), tick - 1) * u / v;
            if (insideSlope(tick) || out(pace, 1, 1000000)) {
                return -3;
            }
            return put(tick, 0, (int) pace, (int) pace) == -4 ? -4 : (int) pace;
        }

        int drop(int tick) {
            if (marks.remove(tick) == null) {
                return -3;
            }
            written = false;
            return marks.size();
        }

        int hold(int tick, int units) {
            if (out(tick, 0, LAST) || out(units, 0, 1000000000)) {
                return -2;
            }
            if (units == 0) {
                holds.remove(tick);
            } else if (!holds.containsKey(tick) && holds.size() == 20) {
                return -4;
            } else {
                holds.put(tick, units);
            }
            written = false;
            return holds.size();
        }

        int mark(int i, int what) {
            if (out(what, 0, 4)) {
                return -2;
            }
            if (out(i, 0, marks.size() - 1)) {
                return -1;
            }
            int[] m = new ArrayList<>(marks.values()).get(i);
            return new int[] {m[0], m[1] > 0 ? 1 : 0, m[2], m[3], m[1]}[what];
        }

        int count(int what) {
            return out(what, 0, 2) ? -2 : new int[] {marks.size(), holds.size(), taps.size()}[what];
        }

        int lasts(int tick) {
            if (out(tick, 0, LAST - 1)) {
                return -2;
            }
            write();
            return lasts[tick];
        }

        long time(int tick) {
            if (out(tick, 0, LAST)) {
                return -2;
            }
            write();
            return begins[tick];
        }

        int tick(long time) {
            if (time < 0) {
                return -2;
            }
            write();
            int last = -1;
            while (last < LAST && begins[last + 1] <= time) {
                last++;
            }
            return last;
        }

        int held(long time) {
            int last = tick(time);
            if (last == -2) {
                return -2;
            }
            return last == -1 || last == LAST || time >= begins[last] + lasts[last] ? 1 : 0;
        }

        long frame(int tick, int rate) {
            if (out(tick, 0, LAST) || out(rate, 1, 192000)) {
                return -2;
            }
            return BigInteger.valueOf(time(tick)).multiply(BigInteger.valueOf(rate))
                    .divide(BigInteger.valueOf(1000000)).longValueExact();
        }

        int tickOf(long frames, int rate) {
            if (frames < 0 || out(rate, 1, 192000)) {
                return -2;
            }
            write();
            for (int t = 0; t <= LAST; t++) {
                if (Math.multiplyExact(begins[t], rate) / 1000000 >= frames) {
                    return t;
                }
            }
            return -1;
        }

        int tap(long time) {
            if (out(time, 0, 1000000000000L)) {
                return -2;
            }
            if (!taps.isEmpty() && time <= taps.get(taps.size() - 1)) {
                return -3;
            }
            if (taps.size() == 40) {
                return -4;
            }
            taps.add(time);
            return taps.size();
        }

        int noTaps() {
            int before = taps.size();
            taps.clear();
            return before;
        }

        /** Twice what each place is off the middle one makes the numbers whole. */
        private BigInteger[] line() {
            BigInteger above = BigInteger.ZERO;
            BigInteger below = BigInteger.ZERO;
            for (int i = 0; i < taps.size(); i++) {
                long off = 2L * i - (taps.size() - 1);
                above = above.add(BigInteger.valueOf(2 * off).multiply(BigInteger.valueOf(taps.get(i))));
                below = below.add(BigInteger.valueOf(off * off));
            }
            BigInteger common = above.gcd(below);
            return new BigInteger[] {above.divide(common), below.divide(common)};
        }

        long fit(int side) {
            if (out(side, 0, 1)) {
                return -2;
            }
            return taps.size() < 2 ? -3 : line()[side].longValueExact();
        }

        long pace(int g) {
            if (out(g, 1, 100000)) {
                return -2;
            }
            if (taps.size() < 2) {
                return -3;
            }
            // Rounded upward from what is half a UNIT below, so that the lesser of two is taken.
            BigInteger[] b = line();
            BigInteger whole = b[1].multiply(BigInteger.valueOf(g));
            BigInteger two = BigInteger.TWO;
            BigInteger[] parts = b[0].multiply(two).subtract(whole).divideAndRemainder(whole.multiply(two));
            return parts[0].add(parts[1].signum() > 0 ? BigInteger.ONE : BigInteger.ZERO).longValueExact();
        }
    }

    private static final class Run {
        private static final int[] ODD = {
            Integer.MIN_VALUE, Integer.MIN_VALUE + 1, -1000000, -5, -4, -3, -2, -1, 0, 1, 2, 3, 4, 5,
            39, 40, 41, 999, 1000, 1001, 1999, 2000, 2001, 99999, 100000, 100001, 191999, 192000, 192001,
            998000, 998001, 999998, 999999, 1000000, 1000001, 999999999, 1000000000, 1000000001,
            Integer.MAX_VALUE - 1, Integer.MAX_VALUE};
        private static final long[] ODD_LONGS = {
            Long.MIN_VALUE, Long.MIN_VALUE + 1, -2, -1, 0, 1, 2, 999999999999L, 1000000000000L, 1000000000001L,
            1020000000000L, 195840000000L, 195840000001L, 9223372036854L, 9223372036855L,
            Long.MAX_VALUE / 1000000, Long.MAX_VALUE / 1000000 + 1, Long.MAX_VALUE - 1, Long.MAX_VALUE};

        private final int number;
        private final TempoMaps real = new TempoMaps();
        private final Model model = new Model();
        /** How far the run's TICKS reach: near ones meet each other, far ones stretch the sums. */
        private final int reach;
        private final int mostPace;
        private long seed;

        Run(int number) {
            this.number = number;
            seed = number * 7919L + 17;
            reach = new int[] {60, 400, 5000, 80000, 1000001}[number % 5];
            mostPace = new int[] {10, 3000, 1000000}[number / 5 % 3];
        }

        private long below(long bound) {
            seed = seed * 6364136223846793005L + 1442695040888963407L;
            return (seed >>> 11) % bound;
        }

        private boolean isOdd() {
            return below(40) == 0;
        }

        private int odd() {
            return ODD[(int) below(ODD.length)];
        }

        private int between(int least, int most) {
            return isOdd() ? odd() : least + (int) below(most - least + 1L);
        }

        private int someTick() {
            if (below(4) == 0 && !model.marks.isEmpty()) {
                int[] m = new ArrayList<>(model.marks.values()).get((int) below(model.marks.size()));
                return m[0] + (int) below(3) - 1 + (below(2) == 0 ? m[1] : 0);
            }
            if (below(6) == 0 && !model.holds.isEmpty()) {
                return new ArrayList<>(model.holds.keySet()).get((int) below(model.holds.size()));
            }
            return between(0, reach);
        }

        private int someSpan() {
            return between(1, below(3) == 0 ? 2000 : Math.max(1, Math.min(2000, reach / 20)));
        }

        private int somePace() {
            return between(1, mostPace);
        }

        private long someTime() {
            if (isOdd()) {
                return ODD_LONGS[(int) below(ODD_LONGS.length)];
            }
            int tick = Math.max(0, Math.min(Model.LAST, someTick()));
            long begin = model.time(tick);
            long length = tick < Model.LAST ? model.lasts(tick) : 5;
            switch ((int) below(4)) {
                case 0: return begin + below(3) - 1;
                case 1: return begin + length + below(3) - 1;
                case 2: return begin + below(length);
                default: return below(model.time(Model.LAST) + 10);
            }
        }

        private long someTap() {
            if (isOdd()) {
                return ODD_LONGS[(int) below(ODD_LONGS.length)];
            }
            long latest = model.taps.isEmpty() ? 0 : model.taps.get(model.taps.size() - 1);
            return latest + below(number % 2 == 0 ? 50 : 40000000000L) - 2;
        }

        private void due(String call, long got, long want) {
            if (got != want) {
                wrong++;
                System.out.println("run " + number + ": " + call + " answered " + got + ", due is " + want);
            }
        }

        void play() {
            for (int i = 0; i < CALLS && wrong < 20; i++) {
                // Changes come in swarms, as the model has to write all TICKS down anew behind them.
                if (i % 64 < 24) {
                    change();
                } else {
                    ask();
                }
            }
        }

        private void change() {
            int t = someTick();
            switch ((int) below(8)) {
                case 0: case 1: {
                    int p = somePace();
                    due("step(" + t + ", " + p + ")", real.step(t, p), model.step(t, p));
                    break;
                }
                case 2: case 3: {
                    int n = someSpan();
                    int p = somePace();
                    int q = somePace();
                    due("slope(" + t + ", " + n + ", " + p + ", " + q + ")",
                            real.slope(t, n, p, q), model.slope(t, n, p, q));
                    break;
                }
                case 4: {
                    int u = between(1, 1000);
                    int v = between(1, 1000);
                    due("modulate(" + t + ", " + u + ", " + v + ")", real.modulate(t, u, v), model.modulate(t, u, v));
                    break;
                }
                case 5: {
                    if (below(2) == 0) {
                        due("drop(" + t + ")", real.drop(t), model.drop(t));
                    }
                    break;
                }
                default: {
                    int units = below(5) == 0 ? 0 : between(1, below(2) == 0 ? 1000 : 1000000000);
                    due("hold(" + t + ", " + units + ")", real.hold(t, units), model.hold(t, units));
                }
            }
        }

        private void ask() {
            switch ((int) below(12)) {
                case 0: {
                    int i = between(0, 41);
                    int what = between(0, 4);
                    due("mark(" + i + ", " + what + ")", real.mark(i, what), model.mark(i, what));
                    break;
                }
                case 1: {
                    int what = between(-1, 3);
                    due("count(" + what + ")", real.count(what), model.count(what));
                    break;
                }
                case 2: {
                    int t = someTick();
                    due("lasts(" + t + ")", real.lasts(t), model.lasts(t));
                    break;
                }
                case 3: {
                    int t = someTick();
                    due("time(" + t + ")", real.time(t), model.time(t));
                    break;
                }
                case 4: {
                    long time = someTime();
                    due("tick(" + time + ")", real.tick(time), model.tick(time));
                    break;
                }
                case 5: {
                    long time = someTime();
                    due("held(" + time + ")", real.held(time), model.held(time));
                    break;
                }
                case 6: {
                    int t = someTick();
                    int rate = between(1, 192000);
                    due("frame(" + t + ", " + rate + ")", real.frame(t, rate), model.frame(t, rate));
                    break;
                }
                case 7:
                    askTickOf();
                    break;
                default:
                    useTaps();
            }
        }

        private void askTickOf() {
            int rate = between(1, 192000);
            long frames = someTime();
            if (rate > 0 && rate <= 192000 && frames > 0 && frames <= 1020000000000L) {
                frames = frames * rate / 1000000 + below(3) - 1;
            }
            due("tickOf(" + frames + ", " + rate + ")", real.tickOf(frames, rate), model.tickOf(frames, rate));
        }

        private void useTaps() {
            switch ((int) below(6)) {
                case 0: {
                    int side = between(-1, 2);
                    due("fit(" + side + ")", real.fit(side), model.fit(side));
                    break;
                }
                case 1: {
                    int g = between(1, below(2) == 0 ? 50 : 100000);
                    due("pace(" + g + ")", real.pace(g), model.pace(g));
                    break;
                }
                case 2: {
                    if (below(8) == 0) {
                        due("noTaps()", real.noTaps(), model.noTaps());
                    }
                    break;
                }
                default: {
                    long time = someTap();
                    due("tap(" + time + ")", real.tap(time), model.tap(time));
                }
            }
        }
    }
}
