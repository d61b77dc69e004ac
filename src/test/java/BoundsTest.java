import java.util.ArrayList;
import java.util.List;
import java.util.function.Supplier;

/**
 * The bounds of every number that a call takes: the last number within on both sides, its neighbour
 * inside, the first one beyond, and the least and the greatest int or long. All of a call's numbers
 * are put together with all others, so that no bound is seen only where the other numbers are fine.
 */
public final class BoundsTest {
    private static final int NONE = -1;
    private static final int OUTSIDE = -2;
    private static final int STATE = -3;

    private static int wrong = 0;
    private static int asked = 0;

    public static void main(String[] args) {
        step();
        slope();
        modulate();
        drop();
        hold();
        mark();
        count();
        lasts();
        time();
        tick();
        held();
        frame();
        tickOf();
        tap();
        fit();
        pace();
        System.out.println(wrong == 0 ? "all " + asked + " answers are as due" : wrong + " answers are not as due");
        if (wrong != 0) {
            System.exit(1);
        }
    }

    private interface Call {
        long on(TempoMaps x, long[] numbers);
    }

    private interface Rule {
        long of(long[] numbers);
    }

    private static final class Number {
        final long least;
        final long most;
        final List<Long> tried = new ArrayList<>();

        Number(long least, long most, long lowest, long greatest) {
            this.least = least;
            this.most = most;
            for (long n : new long[] {lowest, lowest + 1, -1, 0, 1, least, least + 1, most - 1, most, greatest - 1, greatest}) {
                put(n);
            }
            if (least > lowest) {
                put(least - 1);
            }
            if (most < greatest) {
                put(most + 1);
            }
        }

        private void put(long n) {
            if (!tried.contains(n)) {
                tried.add(n);
            }
        }

        boolean isBeyond(long n) {
            return n < least || n > most;
        }
    }

    private static Number ints(long least, long most) {
        return new Number(least, most, Integer.MIN_VALUE, Integer.MAX_VALUE);
    }

    private static Number anyInt() {
        return ints(Integer.MIN_VALUE, Integer.MAX_VALUE);
    }

    private static Number longs(long least, long most) {
        return new Number(least, most, Long.MIN_VALUE, Long.MAX_VALUE);
    }

    /** Due is OUTSIDE where a number is beyond its bounds, and what the rule says where none is. */
    private static void check(String name, Supplier<TempoMaps> made, Call call, Rule rule, Number... numbers) {
        checkFrom(0, new long[numbers.length], name, made, call, rule, numbers);
    }

    private static void checkFrom(int place, long[] chosen, String name, Supplier<TempoMaps> made,
            Call call, Rule rule, Number[] numbers) {
        if (place < numbers.length) {
            for (long n : numbers[place].tried) {
                chosen[place] = n;
                checkFrom(place + 1, chosen, name, made, call, rule, numbers);
            }
            return;
        }
        boolean isBeyond = false;
        for (int i = 0; i < numbers.length; i++) {
            isBeyond |= numbers[i].isBeyond(chosen[i]);
        }
        long want = isBeyond ? OUTSIDE : rule.of(chosen);
        long got = call.on(made.get(), chosen);
        asked++;
        if (got != want) {
            wrong++;
            System.out.println(name + java.util.Arrays.toString(chosen) + " answered " + got + ", due is " + want);
        }
    }

    private static TempoMaps withTwoMarks() {
        TempoMaps x = new TempoMaps();
        x.step(0, 7);
        x.slope(999999, 1, 8, 9);
        return x;
    }

    private static TempoMaps withTwoTaps() {
        TempoMaps x = new TempoMaps();
        x.tap(0);
        x.tap(1000000000000L);
        return x;
    }

    private static void step() {
        check("2: step", TempoMaps::new, (x, n) -> x.step((int) n[0], (int) n[1]), n -> 1,
                ints(0, 999999), ints(1, 1000000));
    }

    private static void slope() {
        check("3: slope", TempoMaps::new, (x, n) -> x.slope((int) n[0], (int) n[1], (int) n[2], (int) n[3]),
                n -> n[0] + n[1] > 1000000 ? OUTSIDE : 1,
                ints(0, 999999), ints(1, 2000), ints(1, 1000000), ints(1, 1000000));
    }

    private static void modulate() {
        check("4: modulate", TempoMaps::new, (x, n) -> x.modulate((int) n[0], (int) n[1], (int) n[2]),
                n -> 1000 * n[1] / n[2],
                ints(1, 999999), ints(1, 1000), ints(1, 1000));
    }

    /** It has no number that is OUTSIDE: where there is no MARK, STATE is due. */
    private static void drop() {
        Number tried = anyInt();
        for (long n : new long[] {0, 1, 999998, 999999, 1000000, 1000001}) {
            tried.put(n);
        }
        check("5: drop of none", TempoMaps::new, (x, n) -> x.drop((int) n[0]), n -> STATE, tried);
        check("5: drop", BoundsTest::withTwoMarks, (x, n) -> x.drop((int) n[0]),
                n -> n[0] == 0 || n[0] == 999999 ? 1 : STATE, tried);
    }

    private static void hold() {
        check("6: hold", TempoMaps::new, (x, n) -> x.hold((int) n[0], (int) n[1]), n -> n[1] == 0 ? 0 : 1,
                ints(0, 1000000), ints(0, 1000000000));
    }

    private static void mark() {
        long[][] told = {{0, 0, 7, 7, 0}, {999999, 1, 8, 9, 1}};
        Number places = anyInt();
        for (long n : new long[] {2, 39, 40, 41}) {
            places.put(n);
        }
        Number what = ints(0, 4);
        what.put(2);
        check("7: mark of none", TempoMaps::new, (x, n) -> x.mark((int) n[0], (int) n[1]), n -> NONE, places, what);
        check("7: mark", BoundsTest::withTwoMarks, (x, n) -> x.mark((int) n[0], (int) n[1]),
                n -> n[0] == 0 || n[0] == 1 ? told[(int) n[0]][(int) n[1]] : NONE, places, what);
    }

    private static void count() {
        check("8: count of none", TempoMaps::new, (x, n) -> x.count((int) n[0]), n -> 0, ints(0, 2));
        check("8: count of MARKS alone", BoundsTest::withTwoMarks, (x, n) -> x.count((int) n[0]),
                n -> n[0] == 0 ? 2 : 0, ints(0, 2));
        check("8: count of TAPS alone", BoundsTest::withTwoTaps, (x, n) -> x.count((int) n[0]),
                n -> n[0] == 2 ? 2 : 0, ints(0, 2));
    }

    private static void lasts() {
        check("9: lasts without MARKS", TempoMaps::new, (x, n) -> x.lasts((int) n[0]), n -> 1000, ints(0, 999999));
        check("9: lasts", BoundsTest::withTwoMarks, (x, n) -> x.lasts((int) n[0]),
                n -> n[0] == 999999 ? 8 : 7, ints(0, 999999));
    }

    private static void time() {
        check("10: time without MARKS", TempoMaps::new, (x, n) -> x.time((int) n[0]), n -> 1000 * n[0],
                ints(0, 1000000));
        check("10: time", BoundsTest::withTwoMarks, (x, n) -> x.time((int) n[0]),
                n -> n[0] == 1000000 ? 7000001 : 7 * n[0], ints(0, 1000000));
    }

    private static Number times() {
        Number times = longs(0, Long.MAX_VALUE);
        for (long n : new long[] {999, 1000, 999999999L, 1000000000L, 1000000001L, Integer.MAX_VALUE, 1L << 32, 1L << 62}) {
            times.put(n);
        }
        return times;
    }

    private static void tick() {
        check("11: tick", TempoMaps::new, (x, n) -> x.tick(n[0]), n -> Math.min(n[0] / 1000, 1000000), times());
    }

    private static void held() {
        check("12: held", TempoMaps::new, (x, n) -> x.held(n[0]), n -> n[0] >= 1000000000L ? 1 : 0, times());
    }

    private static void frame() {
        check("13: frame", TempoMaps::new, (x, n) -> x.frame((int) n[0], (int) n[1]), n -> n[0] * n[1] / 1000,
                ints(0, 1000000), ints(1, 192000));
    }

    private static void tickOf() {
        Number frames = longs(0, Long.MAX_VALUE);
        // By a million, some of these would be small again in a long that wraps around.
        for (long n : new long[] {999, 1000, 1001, 191999999, 192000000, 192000001, 1L << 32,
                Long.MAX_VALUE / 1000000, Long.MAX_VALUE / 1000000 + 1, 18446744073709L, 18446744073710L,
                36893488147419L, 36893488147420L, 1L << 58, 1L << 62}) {
            frames.put(n);
        }
        check("14: tickOf", TempoMaps::new, (x, n) -> x.tickOf(n[0], (int) n[1]),
                n -> n[0] > 1000 * n[1] ? NONE : (1000 * n[0] + n[1] - 1) / n[1],
                frames, ints(1, 192000));
    }

    private static void tap() {
        check("15: tap", TempoMaps::new, (x, n) -> x.tap(n[0]), n -> 1, longs(0, 1000000000000L));
    }

    private static void fit() {
        check("17: fit of none", TempoMaps::new, (x, n) -> x.fit((int) n[0]), n -> STATE, ints(0, 1));
        check("17: fit", BoundsTest::withTwoTaps, (x, n) -> x.fit((int) n[0]),
                n -> n[0] == 0 ? 1000000000000L : 1, ints(0, 1));
    }

    private static void pace() {
        check("18: pace of none", TempoMaps::new, (x, n) -> x.pace((int) n[0]), n -> STATE, ints(1, 100000));
        check("18: pace", BoundsTest::withTwoTaps, (x, n) -> x.pace((int) n[0]),
                n -> (2000000000000L + n[0] - 1) / (2 * n[0]), ints(1, 100000));
    }
}
