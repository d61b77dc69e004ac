import java.util.ArrayList;
import java.util.List;
import java.util.function.Supplier;
import java.util.function.ToLongFunction;

/**
 * "Calls answer, the first of these that fits: OUTSIDE, STATE, ROOM; then nothing changes."
 *
 * Of two objects that were made alike one gets a refused call; then all that can be asked, and some
 * changes, are answered alike by both. One call each: a later one could hide what an earlier did.
 */
public final class RefusalsTest {
    private static final int NONE = -1;
    private static final int OUTSIDE = -2;
    private static final int STATE = -3;
    private static final int ROOM = -4;
    private static final int LOW = Integer.MIN_VALUE;
    private static final int TOP = Integer.MAX_VALUE;

    private static int wrong = 0;
    private static int refused = 0;

    public static void main(String[] args) {
        onNewObject();
        onOneOfEach();
        onFullObject();
        onLatestTap();
        onFullSlopes();
        System.out.println(wrong == 0 ? "all " + refused + " calls left all as it was" : wrong + " answers are not as due");
        if (wrong != 0) {
            System.exit(1);
        }
    }

    private static void due(String what, Object got, Object want) {
        if (!got.equals(want)) {
            wrong++;
            System.out.println(what + ": " + got + ", due is " + want);
        }
    }

    private static void leavesAll(String call, Supplier<TempoMaps> made, ToLongFunction<TempoMaps> asked, long want) {
        TempoMaps x = made.get();
        due(call + " answered", asked.applyAsLong(x), want);
        due(call + " left", all(x), all(made.get()));
        refused++;
    }

    private static final int[] TICKS = {
        0, 1, 2, 3, 4, 5, 9, 10, 11, 12, 13, 14, 15, 19, 20, 21, 100, 109, 110, 111, 220, 330, 440, 550, 660, 770,
        880, 990, 1100, 1210, 1320, 1430, 1540, 1650, 1760, 1870, 1979, 1980, 1981, 3900, 79999, 80000, 80001,
        500000, 998000, 999998, 999999, 1000000};

    /** All that an object tells, and what it answers to some changes behind that: with 40 MARKS some 270 calls. */
    private static List<Long> all(TempoMaps x) {
        List<Long> told = new ArrayList<>();
        for (int what = 0; what < 3; what++) {
            told.add((long) x.count(what));
        }
        int marks = x.count(0);
        for (int i = 0; i <= Math.min(marks, 50); i++) {
            for (int what = 0; what < 5; what++) {
                told.add((long) x.mark(i, what));
            }
        }
        for (int t : TICKS) {
            told.add(x.time(t));
        }
        told.add(x.fit(0));
        told.add(x.fit(1));
        told.add(x.pace(1));
        told.add((long) x.tick(123456));
        told.add((long) x.tickOf(12, 97));
        told.add((long) x.drop(0));
        told.add((long) x.step(700000, 3));
        told.add((long) x.hold(0, 0));
        told.add((long) x.hold(600000, 3));
        told.add(x.time(1000000));
        told.add((long) x.tap(500000000000L));
        told.add((long) x.tap(600000000000L));
        told.add(x.fit(0));
        told.add(x.fit(1));
        told.add((long) x.noTaps());
        told.add((long) x.tap(0));
        return told;
    }

    private static TempoMaps oneOfEach() {
        TempoMaps x = new TempoMaps();
        x.slope(10, 5, 30, 3);
        x.step(20, 77);
        x.hold(12, 9);
        x.tap(5);
        return x;
    }

    /** 40 MARKS, the first at TICK 0 and the last at 999999, 20 HOLDS from 0 to 1000000, and 40 TAPS. */
    private static TempoMaps full() {
        TempoMaps x = new TempoMaps();
        x.slope(0, 5, 1000000, 1);
        x.slope(999999, 1, 4, 8);
        for (int i = 1; i < 39; i++) {
            if (i % 2 == 0) {
                x.step(100 * i, 10 + i);
            } else {
                x.slope(100 * i, 60, 10 + i, 200 - i);
            }
        }
        x.hold(0, 1000000000);
        x.hold(1000000, 1000000000);
        for (int i = 1; i < 19; i++) {
            x.hold(110 * i, i);
        }
        for (int i = 0; i < 40; i++) {
            x.tap(7L * i * i);
        }
        return x;
    }

    private static TempoMaps latestTap() {
        TempoMaps x = new TempoMaps();
        x.tap(3);
        x.tap(1000000000000L);
        return x;
    }

    /** 40 SLOPES as long as they can be, end to end. */
    private static TempoMaps fullSlopes() {
        TempoMaps x = new TempoMaps();
        for (int i = 0; i < 40; i++) {
            x.slope(2000 * i, 2000, 1 + i, 1000000 - i);
        }
        return x;
    }

    private static void onNewObject() {
        Supplier<TempoMaps> made = TempoMaps::new;
        due("1: a new object's all is that of another", all(new TempoMaps()), all(new TempoMaps()));
        numbersOutside("new: ", made);
        leavesAll("5: drop(0)", made, x -> x.drop(0), STATE);
        leavesAll("5: drop(-1)", made, x -> x.drop(-1), STATE);
        leavesAll("6: hold(0, 0) of none", made, x -> x.hold(0, 0), 0);
        leavesAll("7: mark(0, 0)", made, x -> x.mark(0, 0), NONE);
        leavesAll("16: noTaps() of none", made, x -> x.noTaps(), 0);
        leavesAll("17: fit(0)", made, x -> x.fit(0), STATE);
        leavesAll("17: fit(1)", made, x -> x.fit(1), STATE);
        leavesAll("18: pace(1)", made, x -> x.pace(1), STATE);
        leavesAll("18: pace(100000)", made, x -> x.pace(100000), STATE);
    }

    private static void onOneOfEach() {
        Supplier<TempoMaps> made = RefusalsTest::oneOfEach;
        numbersOutside("one of each: ", made);
        leavesAll("2: on the SLOPE's second TICK", made, x -> x.step(11, 5), STATE);
        leavesAll("2: on the SLOPE's last TICK", made, x -> x.step(14, 5), STATE);
        leavesAll("3: on the SLOPE's second TICK", made, x -> x.slope(11, 1, 5, 6), STATE);
        leavesAll("3: on the SLOPE's last TICK", made, x -> x.slope(14, 1, 5, 6), STATE);
        leavesAll("3: the SLOPE on its last TICK", made, x -> x.slope(9, 2, 5, 6), STATE);
        leavesAll("3: the STEP on its last TICK", made, x -> x.slope(15, 6, 5, 6), STATE);
        leavesAll("3: in place of the SLOPE, the STEP on its last TICK", made, x -> x.slope(10, 11, 5, 6), STATE);
        leavesAll("3: all on its TICKS", made, x -> x.slope(0, 2000, 5, 6), STATE);
        leavesAll("4: on the SLOPE's second TICK", made, x -> x.modulate(11, 1, 1), STATE);
        leavesAll("4: on the SLOPE's last TICK", made, x -> x.modulate(14, 1, 1), STATE);
        leavesAll("4: a PACE of 0", made, x -> x.modulate(100, 1, 78), STATE);
        leavesAll("4: in place, a PACE of 0", made, x -> x.modulate(20, 1, 4), STATE);
        leavesAll("4: in place of the SLOPE, a PACE above the most", made, x -> {
            x.step(9, 1001);
            long answer = x.modulate(10, 1000, 1);
            x.drop(9);
            return answer;
        }, STATE);
        leavesAll("5: on the SLOPE's second TICK", made, x -> x.drop(11), STATE);
        leavesAll("5: a HOLD, but no MARK", made, x -> x.drop(12), STATE);
        leavesAll("5: drop(LOW)", made, x -> x.drop(LOW), STATE);
        leavesAll("5: drop(TOP)", made, x -> x.drop(TOP), STATE);
        leavesAll("6: a MARK, but no HOLD", made, x -> x.hold(10, 0), 1);
        leavesAll("7: mark(2, 0)", made, x -> x.mark(2, 0), NONE);
        leavesAll("15: the latest TAP again", made, x -> x.tap(5), STATE);
        leavesAll("15: ahead of the latest TAP", made, x -> x.tap(4), STATE);
        leavesAll("17: one TAP", made, x -> x.fit(0), STATE);
        leavesAll("17: one TAP, below", made, x -> x.fit(1), STATE);
        leavesAll("18: one TAP", made, x -> x.pace(1), STATE);
    }

    private static void onFullObject() {
        Supplier<TempoMaps> made = RefusalsTest::full;
        due("40 MARKS", full().count(0), 40);
        due("20 HOLDS", full().count(1), 20);
        due("40 TAPS", full().count(2), 40);
        numbersOutside("full: ", made);
        leavesAll("2: ROOM ahead of the second MARK", made, x -> x.step(5, 5), ROOM);
        leavesAll("2: ROOM among MARKS", made, x -> x.step(201, 5), ROOM);
        leavesAll("2: ROOM ahead of the last MARK", made, x -> x.step(999998, 5), ROOM);
        leavesAll("2: STATE ahead of ROOM", made, x -> x.step(159, 5), STATE);
        leavesAll("3: ROOM ahead of the second MARK", made, x -> x.slope(5, 95, 5, 6), ROOM);
        leavesAll("3: ROOM among MARKS", made, x -> x.slope(160, 40, 5, 6), ROOM);
        leavesAll("3: ROOM ahead of the last MARK", made, x -> x.slope(997999, 2000, 5, 6), ROOM);
        leavesAll("3: STATE, on a SLOPE, ahead of ROOM", made, x -> x.slope(159, 1, 5, 6), STATE);
        leavesAll("3: STATE, a MARK on it, ahead of ROOM", made, x -> x.slope(160, 41, 5, 6), STATE);
        leavesAll("3: STATE in place", made, x -> x.slope(100, 101, 5, 6), STATE);
        leavesAll("4: ROOM ahead of the second MARK", made, x -> x.modulate(5, 1, 1), ROOM);
        leavesAll("4: ROOM among MARKS", made, x -> x.modulate(160, 1, 1), ROOM);
        leavesAll("4: ROOM ahead of the last MARK", made, x -> x.modulate(999998, 1, 1), ROOM);
        leavesAll("4: STATE, on a SLOPE, ahead of ROOM", made, x -> x.modulate(159, 1, 1), STATE);
        leavesAll("4: STATE, a PACE of 0, ahead of ROOM", made, x -> x.modulate(160, 1, 1000), STATE);
        leavesAll("4: STATE, a PACE of 0, in place", made, x -> x.modulate(100, 1, 2), STATE);
        leavesAll("5: no MARK on a SLOPE's TICK", made, x -> x.drop(159), STATE);
        leavesAll("5: no MARK behind the last", made, x -> x.drop(1000000), STATE);
        leavesAll("6: ROOM", made, x -> x.hold(111, 5), ROOM);
        leavesAll("6: ROOM for the longest", made, x -> x.hold(999999, 1000000000), ROOM);
        leavesAll("6: none goes", made, x -> x.hold(111, 0), 20);
        leavesAll("7: mark(40, 0)", made, x -> x.mark(40, 0), NONE);
        leavesAll("15: ROOM", made, x -> x.tap(7L * 39 * 39 + 1), ROOM);
        leavesAll("15: ROOM for the last", made, x -> x.tap(1000000000000L), ROOM);
        leavesAll("15: STATE ahead of ROOM", made, x -> x.tap(7L * 39 * 39), STATE);
        leavesAll("15: STATE ahead of ROOM, long ago", made, x -> x.tap(0), STATE);
    }

    private static void onLatestTap() {
        Supplier<TempoMaps> made = RefusalsTest::latestTap;
        leavesAll("15: the latest there can be, again", made, x -> x.tap(1000000000000L), STATE);
        leavesAll("15: OUTSIDE ahead of STATE", made, x -> x.tap(1000000000001L), OUTSIDE);
        leavesAll("15: OUTSIDE ahead of STATE, below 0", made, x -> x.tap(-1), OUTSIDE);
        leavesAll("15: STATE below the latest", made, x -> x.tap(999999999999L), STATE);
    }

    private static void onFullSlopes() {
        Supplier<TempoMaps> made = RefusalsTest::fullSlopes;
        leavesAll("2: on the last SLOPE's last TICK", made, x -> x.step(79999, 5), STATE);
        leavesAll("2: behind the last SLOPE", made, x -> x.step(80000, 5), ROOM);
        leavesAll("3: on the last SLOPE's last TICK", made, x -> x.slope(79999, 2000, 5, 6), STATE);
        leavesAll("3: behind the last SLOPE", made, x -> x.slope(80000, 2000, 5, 6), ROOM);
        leavesAll("4: on the last SLOPE's last TICK", made, x -> x.modulate(79999, 1, 1), STATE);
        leavesAll("4: behind the last SLOPE", made, x -> x.modulate(80000, 1, 1), ROOM);
        leavesAll("4: behind it, a PACE above the most", made, x -> x.modulate(80000, 1000, 1), STATE);
    }

    /** OUTSIDE in whatever state; the other numbers would be refused by STATE or ROOM, where there are such. */
    private static void numbersOutside(String state, Supplier<TempoMaps> made) {
        for (int tick : new int[] {LOW, -1, 1000000, TOP}) {
            leavesAll(state + "2: step(" + tick + ", 5)", made, x -> x.step(tick, 5), OUTSIDE);
            leavesAll(state + "3: slope(" + tick + ", 3, 5, 6)", made, x -> x.slope(tick, 3, 5, 6), OUTSIDE);
            leavesAll(state + "4: modulate(" + tick + ", 1, 1)", made, x -> x.modulate(tick, 1, 1), OUTSIDE);
            leavesAll(state + "9: lasts(" + tick + ")", made, x -> x.lasts(tick), OUTSIDE);
        }
        leavesAll(state + "4: modulate(0, 1, 1)", made, x -> x.modulate(0, 1, 1), OUTSIDE);
        leavesAll(state + "3: slope(998001, 2000, 5, 6)", made, x -> x.slope(998001, 2000, 5, 6), OUTSIDE);
        leavesAll(state + "3: slope(999999, 2, 5, 6)", made, x -> x.slope(999999, 2, 5, 6), OUTSIDE);
        for (int tick : new int[] {LOW, -1, 1000001, TOP}) {
            leavesAll(state + "6: hold(" + tick + ", 5)", made, x -> x.hold(tick, 5), OUTSIDE);
            leavesAll(state + "6: hold(" + tick + ", 0)", made, x -> x.hold(tick, 0), OUTSIDE);
            leavesAll(state + "10: time(" + tick + ")", made, x -> x.time(tick), OUTSIDE);
            leavesAll(state + "13: frame(" + tick + ", 5)", made, x -> x.frame(tick, 5), OUTSIDE);
        }
        // TICK 11 is on a SLOPE of the one object, TICK 5 is without ROOM on the other, TICK 10 is in place.
        for (int tick : new int[] {5, 10, 11, 100}) {
            pacesOutside(state, made, tick);
        }
        for (int units : new int[] {LOW, -1, 1000000001, TOP}) {
            leavesAll(state + "6: hold(5, " + units + ")", made, x -> x.hold(5, units), OUTSIDE);
            leavesAll(state + "6: hold(12, " + units + ")", made, x -> x.hold(12, units), OUTSIDE);
            leavesAll(state + "6: hold(110, " + units + ")", made, x -> x.hold(110, units), OUTSIDE);
        }
        for (int what : new int[] {LOW, -1, 5, TOP}) {
            leavesAll(state + "7: mark(0, " + what + ")", made, x -> x.mark(0, what), OUTSIDE);
            leavesAll(state + "7: mark(99, " + what + ")", made, x -> x.mark(99, what), OUTSIDE);
            leavesAll(state + "8: count(" + (what == 5 ? 3 : what) + ")", made, x -> x.count(what == 5 ? 3 : what), OUTSIDE);
        }
        timesOutside(state, made);
    }

    private static void pacesOutside(String state, Supplier<TempoMaps> made, int tick) {
        for (int pace : new int[] {LOW, 0, 1000001, TOP}) {
            leavesAll(state + "2: step(" + tick + ", " + pace + ")", made, x -> x.step(tick, pace), OUTSIDE);
            leavesAll(state + "3: slope, p " + pace, made, x -> x.slope(tick, 3, pace, 6), OUTSIDE);
            leavesAll(state + "3: slope, q " + pace, made, x -> x.slope(tick, 3, 5, pace), OUTSIDE);
        }
        for (int n : new int[] {LOW, 0, 2001, TOP}) {
            leavesAll(state + "3: slope, n " + n, made, x -> x.slope(tick, n, 5, 6), OUTSIDE);
        }
        for (int part : new int[] {LOW, 0, 1001, TOP}) {
            leavesAll(state + "4: modulate, u " + part, made, x -> x.modulate(tick, part, 1), OUTSIDE);
            leavesAll(state + "4: modulate, v " + part, made, x -> x.modulate(tick, 1, part), OUTSIDE);
        }
    }

    private static void timesOutside(String state, Supplier<TempoMaps> made) {
        for (long time : new long[] {Long.MIN_VALUE, -1}) {
            leavesAll(state + "11: tick(" + time + ")", made, x -> x.tick(time), OUTSIDE);
            leavesAll(state + "12: held(" + time + ")", made, x -> x.held(time), OUTSIDE);
            leavesAll(state + "14: tickOf(" + time + ", 5)", made, x -> x.tickOf(time, 5), OUTSIDE);
        }
        for (int rate : new int[] {LOW, -1, 0, 192001, TOP}) {
            leavesAll(state + "13: frame(5, " + rate + ")", made, x -> x.frame(5, rate), OUTSIDE);
            leavesAll(state + "14: tickOf(5, " + rate + ")", made, x -> x.tickOf(5, rate), OUTSIDE);
            leavesAll(state + "14: tickOf(greatest, " + rate + ")", made, x -> x.tickOf(Long.MAX_VALUE, rate), OUTSIDE);
        }
        for (long time : new long[] {Long.MIN_VALUE, -1, 1000000000001L, Long.MAX_VALUE}) {
            leavesAll(state + "15: tap(" + time + ")", made, x -> x.tap(time), OUTSIDE);
        }
        for (int side : new int[] {LOW, -1, 2, TOP}) {
            leavesAll(state + "17: fit(" + side + ")", made, x -> x.fit(side), OUTSIDE);
        }
        for (int g : new int[] {LOW, -1, 0, 100001, TOP}) {
            leavesAll(state + "18: pace(" + g + ")", made, x -> x.pace(g), OUTSIDE);
        }
        leavesAll(state + "14: tickOf(greatest, 1)", made, x -> x.tickOf(Long.MAX_VALUE, 1), NONE);
    }
}
