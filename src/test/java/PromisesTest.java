/** For each promise of the document: ordinary inputs, the edges that it names, and wrong inputs. */
public final class PromisesTest {
    private static final int NONE = -1;
    private static final int OUTSIDE = -2;
    private static final int STATE = -3;
    private static final int ROOM = -4;
    private static final int LOW = Integer.MIN_VALUE;
    private static final int TOP = Integer.MAX_VALUE;

    private static int wrong = 0;

    private static void due(String call, long got, long want) {
        if (got != want) {
            wrong++;
            System.out.println(call + " answered " + got + ", due is " + want);
        }
    }

    public static void main(String[] args) {
        newObject();
        step();
        stepsWithoutRoom();
        slope();
        slopeAmongMarks();
        slopesWithoutRoom();
        modulate();
        modulateWithoutRoom();
        drop();
        hold();
        holdsWithoutRoom();
        mark();
        count();
        lasts();
        time();
        tick();
        held();
        frame();
        tickOf();
        tap();
        tapsWithoutRoom();
        noTaps();
        fit();
        pace();
        refusedCallsChangeNothing();
        System.out.println(wrong == 0 ? "all answers are as due" : wrong + " answers are not as due");
        if (wrong != 0) {
            System.exit(1);
        }
    }

    private static void newObject() {
        TempoMaps x = new TempoMaps();
        due("1: NONE", TempoMaps.NONE, NONE);
        due("1: OUTSIDE", TempoMaps.OUTSIDE, OUTSIDE);
        due("1: STATE", TempoMaps.STATE, STATE);
        due("1: ROOM", TempoMaps.ROOM, ROOM);
        due("1: no MARKS", x.count(0), 0);
        due("1: no HOLDS", x.count(1), 0);
        due("1: no TAPS", x.count(2), 0);
        due("1: lasts(999999)", x.lasts(999999), 1000);
        due("1: time(1000000)", x.time(1000000), 1000000000L);
        x.step(0, 7);
        x.hold(0, 7);
        x.tap(7);
        TempoMaps other = new TempoMaps();
        due("1: another object has no MARKS", other.count(0), 0);
        due("1: another object has no HOLDS", other.count(1), 0);
        due("1: another object has no TAPS", other.count(2), 0);
        due("1: another object's time(1)", other.time(1), 1000);
    }

    private static void step() {
        TempoMaps x = new TempoMaps();
        due("2: step(100, 20)", x.step(100, 20), 1);
        due("2: step(50, 10)", x.step(50, 10), 2);
        due("2: step(100, 30) in place", x.step(100, 30), 2);
        due("2: ahead of the first", x.lasts(49), 1000);
        due("2: from its TICK on", x.lasts(50), 10);
        due("2: up to the next", x.lasts(99), 10);
        due("2: the one in place", x.lasts(100), 30);
        due("2: up to the end", x.lasts(999999), 30);
        due("2: step(0, 1)", x.step(0, 1), 3);
        due("2: step(999999, 1000000)", x.step(999999, 1000000), 4);
        due("2: step(-1, 1)", x.step(-1, 1), OUTSIDE);
        due("2: step(1000000, 1)", x.step(1000000, 1), OUTSIDE);
        due("2: step(LOW, 1)", x.step(LOW, 1), OUTSIDE);
        due("2: step(TOP, 1)", x.step(TOP, 1), OUTSIDE);
        due("2: step(1, 0)", x.step(1, 0), OUTSIDE);
        due("2: step(1, 1000001)", x.step(1, 1000001), OUTSIDE);
        due("2: step(1, LOW)", x.step(1, LOW), OUTSIDE);
        x.slope(200, 10, 5, 6);
        due("2: on the SLOPE's second TICK", x.step(201, 5), STATE);
        due("2: on the SLOPE's last TICK", x.step(209, 5), STATE);
        due("2: OUTSIDE goes ahead of STATE", x.step(205, 0), OUTSIDE);
        due("2: behind the SLOPE's TICKS", x.step(210, 5), 6);
        due("2: in place of the SLOPE", x.step(200, 9), 6);
        due("2: the SLOPE is gone", x.step(205, 9), 7);
        due("2: the SLOPE lasts no more", x.lasts(204), 9);
    }

    private static void stepsWithoutRoom() {
        TempoMaps x = new TempoMaps();
        x.slope(0, 5, 1, 2);
        for (int i = 1; i < 40; i++) {
            due("2: step " + i, x.step(1000 - 10 * i, i), i + 1);
        }
        due("2: a 41st", x.step(5000, 1), ROOM);
        due("2: STATE goes ahead of ROOM", x.step(3, 1), STATE);
        due("2: OUTSIDE goes ahead of ROOM", x.step(-1, 1), OUTSIDE);
        due("2: in place there is room", x.step(990, 77), 40);
        due("2: it is there", x.lasts(990), 77);
        due("2: drop makes room", x.drop(0), 39);
        due("2: the room is used", x.step(5000, 1), 40);
    }

    private static void slope() {
        TempoMaps x = new TempoMaps();
        due("3: slope(10, 4, 10, 20)", x.slope(10, 4, 10, 20), 1);
        int[] rising = {1000, 10, 12, 15, 17, 20, 20};
        for (int i = 0; i < rising.length; i++) {
            due("3: rising lasts(" + (9 + i) + ")", x.lasts(9 + i), rising[i]);
        }
        due("3: slope(10, 4, 20, 10) in place", x.slope(10, 4, 20, 10), 1);
        int[] falling = {1000, 20, 17, 15, 12, 10, 10};
        for (int i = 0; i < falling.length; i++) {
            due("3: falling lasts(" + (9 + i) + ")", x.lasts(9 + i), falling[i]);
        }
        due("3: falling time(14)", x.time(14), 10064);
        due("3: slope(0, 1, 3, 9)", x.slope(0, 1, 3, 9), 2);
        due("3: its one TICK", x.lasts(0), 3);
        due("3: behind it", x.lasts(1), 9);
        due("3: slope(0, 0, 1, 1)", x.slope(0, 0, 1, 1), OUTSIDE);
        due("3: slope(0, 2001, 1, 1)", x.slope(0, 2001, 1, 1), OUTSIDE);
        due("3: slope(0, TOP, 1, 1)", x.slope(0, TOP, 1, 1), OUTSIDE);
        due("3: slope(-1, 5, 1, 1)", x.slope(-1, 5, 1, 1), OUTSIDE);
        due("3: slope(1000000, 1, 1, 1)", x.slope(1000000, 1, 1, 1), OUTSIDE);
        due("3: slope(TOP, 2000, 1, 1)", x.slope(TOP, 2000, 1, 1), OUTSIDE);
        due("3: slope(20, 1, 0, 1)", x.slope(20, 1, 0, 1), OUTSIDE);
        due("3: slope(20, 1, 1000001, 1)", x.slope(20, 1, 1000001, 1), OUTSIDE);
        due("3: slope(20, 1, 1, 0)", x.slope(20, 1, 1, 0), OUTSIDE);
        due("3: slope(20, 1, 1, 1000001)", x.slope(20, 1, 1, 1000001), OUTSIDE);
        due("3: its TICKS would end behind the last", x.slope(998001, 2000, 1, 1), OUTSIDE);
        due("3: its TICKS end at the last", x.slope(998000, 2000, 1000000, 1), 3);
        due("3: the last TICK of all", x.lasts(999999), 500);
    }

    private static void slopeAmongMarks() {
        TempoMaps x = new TempoMaps();
        x.slope(100, 10, 5, 6);
        due("3: on another's second TICK", x.slope(101, 1, 1, 1), STATE);
        due("3: on another's last TICK", x.slope(109, 1, 1, 1), STATE);
        due("3: OUTSIDE goes ahead of STATE", x.slope(109, 1, 1, 0), OUTSIDE);
        due("3: behind another's TICKS", x.slope(110, 3, 1, 1), 2);
        due("3: another MARK on its last TICK", x.slope(91, 10, 1, 1), STATE);
        due("3: another MARK far inside", x.slope(50, 2000, 1, 1), STATE);
        due("3: another MARK behind its TICKS", x.slope(90, 10, 1, 1), 3);
        due("3: longer in place, onto the next", x.slope(100, 11, 1, 1), STATE);
        due("3: as long in place", x.slope(100, 10, 7, 7), 3);
        due("3: a STEP counts, too", x.step(120, 4), 4);
        due("3: a STEP on its TICKS", x.slope(110, 11, 1, 1), STATE);
        due("3: a STEP behind its TICKS", x.slope(110, 10, 1, 1), 4);
        due("3: in place of the STEP", x.slope(120, 2000, 4, 4), 4);
    }

    private static void slopesWithoutRoom() {
        TempoMaps x = new TempoMaps();
        for (int i = 0; i < 40; i++) {
            due("3: slope " + i, x.slope(2000 * i, 2000, 1000000, 1), i + 1);
        }
        due("3: a 41st", x.slope(80000, 1, 1, 1), ROOM);
        due("3: STATE goes ahead of ROOM", x.slope(5, 1, 1, 1), STATE);
        due("3: OUTSIDE goes ahead of ROOM", x.slope(80000, 0, 1, 1), OUTSIDE);
        due("3: time(80000)", x.time(80000), 40L * 1000500000L);
        due("3: in place there is room", x.slope(78000, 2, 3, 5), 40);
        due("3: it is there", x.time(78003) - x.time(78000), 12);
    }

    private static void modulate() {
        TempoMaps x = new TempoMaps();
        due("4: modulate(1, 2, 3)", x.modulate(1, 2, 3), 666);
        due("4: it is a STEP", x.mark(0, 1), 0);
        due("4: its PACE", x.mark(0, 2), 666);
        due("4: ahead of it", x.lasts(0), 1000);
        due("4: from it on", x.lasts(1), 666);
        due("4: in place, by the TICK ahead", x.modulate(1, 1, 2), 500);
        due("4: in place, how many", x.count(0), 1);
        due("4: modulate(0, 1, 1)", x.modulate(0, 1, 1), OUTSIDE);
        due("4: modulate(-1, 1, 1)", x.modulate(-1, 1, 1), OUTSIDE);
        due("4: modulate(1000000, 1, 1)", x.modulate(1000000, 1, 1), OUTSIDE);
        due("4: modulate(LOW, 1, 1)", x.modulate(LOW, 1, 1), OUTSIDE);
        due("4: modulate(5, 0, 1)", x.modulate(5, 0, 1), OUTSIDE);
        due("4: modulate(5, 1001, 1)", x.modulate(5, 1001, 1), OUTSIDE);
        due("4: modulate(5, 1, 0)", x.modulate(5, 1, 0), OUTSIDE);
        due("4: modulate(5, 1, 1001)", x.modulate(5, 1, 1001), OUTSIDE);
        x.slope(100, 10, 10, 20);
        due("4: on a SLOPE's TICKS", x.modulate(109, 1, 1), STATE);
        due("4: behind them, of the SLOPE's last TICK", x.modulate(110, 10, 1), 190);
        due("4: in place of the SLOPE", x.modulate(100, 1, 1), 500);
        x.step(200, 1000);
        due("4: a PACE of 1", x.modulate(201, 1, 1000), 1);
        due("4: a PACE of 0", x.modulate(202, 999, 1000), STATE);
        due("4: a PACE of 1000000", x.modulate(201, 1000, 1), 1000000);
        due("4: a PACE of more", x.modulate(202, 1000, 999), STATE);
        due("4: 1000000000", x.modulate(202, 1000, 1), STATE);
        due("4: 1000000 again", x.modulate(999999, 1000, 1000), 1000000);
        x.step(200, 7);
        due("4: it stays what it was", x.lasts(201), 1000000);
    }

    private static void modulateWithoutRoom() {
        TempoMaps x = new TempoMaps();
        x.slope(10, 5, 1, 1);
        for (int i = 1; i < 40; i++) {
            x.step(100 + i, 10 + i);
        }
        due("4: a 41st", x.modulate(500, 2, 1), ROOM);
        due("4: a PACE of 0 goes ahead of ROOM", x.modulate(500, 1, 1000), STATE);
        due("4: on a SLOPE goes ahead of ROOM", x.modulate(12, 1, 1), STATE);
        due("4: OUTSIDE goes ahead of ROOM", x.modulate(500, 1, 0), OUTSIDE);
        due("4: in place there is room", x.modulate(102, 3, 1), 33);
        due("4: how many", x.count(0), 40);
    }

    private static void drop() {
        TempoMaps x = new TempoMaps();
        due("5: none is there", x.drop(0), STATE);
        x.step(10, 1);
        x.slope(20, 5, 2, 4);
        x.step(30, 3);
        due("5: on a SLOPE, but not at its TICK", x.drop(21), STATE);
        due("5: ahead of all", x.drop(9), STATE);
        due("5: at no TICK", x.drop(-1), STATE);
        due("5: at no TICK of a MARK", x.drop(1000000), STATE);
        due("5: drop(LOW)", x.drop(LOW), STATE);
        due("5: drop(TOP)", x.drop(TOP), STATE);
        due("5: drop(20)", x.drop(20), 2);
        due("5: again", x.drop(20), STATE);
        due("5: the one ahead goes on", x.lasts(22), 1);
        due("5: the time behind it", x.time(31), 10023);
        due("5: the first goes", x.drop(10), 1);
        due("5: the first pace goes on", x.time(31), 30003);
        due("5: the last goes", x.drop(30), 0);
        due("5: nothing is left", x.time(31), 31000);
        for (int i = 0; i < 6; i++) {
            x.slope(100 + 10 * i, 2 + i, 20 + i, 30 + i);
        }
        due("5: one of six", x.drop(110), 5);
        int[] want = {100, 120, 130, 140, 150};
        for (int i = 0; i < want.length; i++) {
            due("5: its TICK is left: " + i, x.mark(i, 0), want[i]);
            due("5: its p is left: " + i, x.mark(i, 2), 10 + want[i] / 10);
            due("5: its q is left: " + i, x.mark(i, 3), 20 + want[i] / 10);
            due("5: its n is left: " + i, x.mark(i, 4), want[i] / 10 - 8);
        }
    }

    private static void hold() {
        TempoMaps x = new TempoMaps();
        due("6: hold(5, 70)", x.hold(5, 70), 1);
        due("6: hold(2, 3)", x.hold(2, 3), 2);
        due("6: ahead of both", x.time(1), 1000);
        due("6: it passes ahead of its TICK", x.time(2), 2003);
        due("6: both", x.time(5), 5073);
        due("6: hold(5, 80) in place", x.hold(5, 80), 2);
        due("6: the one in place", x.time(5), 5083);
        due("6: hold(5, 0)", x.hold(5, 0), 1);
        due("6: it is gone", x.time(5), 5003);
        due("6: hold(5, 0) again", x.hold(5, 0), 1);
        due("6: hold(0, 1000000000)", x.hold(0, 1000000000), 2);
        due("6: time(0)", x.time(0), 1000000000L);
        due("6: hold(1000000, 1)", x.hold(1000000, 1), 3);
        due("6: hold(-1, 1)", x.hold(-1, 1), OUTSIDE);
        due("6: hold(1000001, 1)", x.hold(1000001, 1), OUTSIDE);
        due("6: hold(-1, 0)", x.hold(-1, 0), OUTSIDE);
        due("6: hold(TOP, 0)", x.hold(TOP, 0), OUTSIDE);
        due("6: hold(1, -1)", x.hold(1, -1), OUTSIDE);
        due("6: hold(1, 1000000001)", x.hold(1, 1000000001), OUTSIDE);
        due("6: hold(1, LOW)", x.hold(1, LOW), OUTSIDE);
        x.slope(100, 10, 1, 1);
        due("6: on a SLOPE's TICKS", x.hold(105, 1), 4);
    }

    private static void holdsWithoutRoom() {
        TempoMaps x = new TempoMaps();
        for (int i = 0; i < 20; i++) {
            due("6: hold " + i, x.hold(100 - i, 1000000000), i + 1);
        }
        due("6: a 21st", x.hold(5, 1), ROOM);
        due("6: OUTSIDE goes ahead of ROOM", x.hold(-1, 1), OUTSIDE);
        due("6: 0 UNITS need no room", x.hold(5, 0), 20);
        due("6: all of them", x.time(100), 20000100000L);
        due("6: in place there is room", x.hold(90, 1), 20);
        due("6: one goes", x.hold(95, 0), 19);
        due("6: there is room again", x.hold(5, 9), 20);
        due("6: all of them then", x.time(100), 18000100010L);
    }

    private static void mark() {
        TempoMaps x = new TempoMaps();
        x.step(30, 3);
        x.slope(10, 4, 5, 6);
        int[][] want = {{10, 1, 5, 6, 4}, {30, 0, 3, 3, 0}};
        for (int i = 0; i < 2; i++) {
            for (int what = 0; what < 5; what++) {
                due("7: mark(" + i + ", " + what + ")", x.mark(i, what), want[i][what]);
            }
        }
        due("7: mark(2, 0)", x.mark(2, 0), NONE);
        due("7: mark(-1, 0)", x.mark(-1, 0), NONE);
        due("7: mark(40, 4)", x.mark(40, 4), NONE);
        due("7: mark(LOW, 1)", x.mark(LOW, 1), NONE);
        due("7: mark(TOP, 1)", x.mark(TOP, 1), NONE);
        due("7: mark(0, -1)", x.mark(0, -1), OUTSIDE);
        due("7: mark(0, 5)", x.mark(0, 5), OUTSIDE);
        due("7: OUTSIDE goes ahead of NONE", x.mark(9, 5), OUTSIDE);
        x.step(10, 8);
        due("7: a STEP in place: its kind", x.mark(0, 1), 0);
        due("7: a STEP in place: q", x.mark(0, 3), 8);
        due("7: a STEP in place: n", x.mark(0, 4), 0);
        x.drop(10);
        due("7: the next moves up", x.mark(0, 0), 30);
        due("7: and leaves its place", x.mark(1, 0), NONE);
    }

    private static void count() {
        TempoMaps x = new TempoMaps();
        x.step(1, 1);
        x.hold(1, 1);
        x.hold(2, 1);
        x.tap(1);
        x.tap(2);
        x.tap(3);
        due("8: count(0)", x.count(0), 1);
        due("8: count(1)", x.count(1), 2);
        due("8: count(2)", x.count(2), 3);
        due("8: count(-1)", x.count(-1), OUTSIDE);
        due("8: count(3)", x.count(3), OUTSIDE);
        due("8: count(LOW)", x.count(LOW), OUTSIDE);
    }

    private static void lasts() {
        TempoMaps x = new TempoMaps();
        x.slope(0, 2000, 1000000, 1);
        due("9: lasts(0)", x.lasts(0), 1000000);
        due("9: lasts(1), rounded downward", x.lasts(1), 999500);
        due("9: lasts(1999)", x.lasts(1999), 500);
        due("9: lasts(2000)", x.lasts(2000), 1);
        due("9: lasts(999999)", x.lasts(999999), 1);
        due("9: lasts(-1)", x.lasts(-1), OUTSIDE);
        due("9: lasts(1000000)", x.lasts(1000000), OUTSIDE);
        due("9: lasts(LOW)", x.lasts(LOW), OUTSIDE);
        due("9: lasts(TOP)", x.lasts(TOP), OUTSIDE);
        x.hold(5, 10);
        due("9: a HOLD is no part of it", x.lasts(4), 998000);
        x.slope(0, 2000, 1, 1000000);
        due("9: rising lasts(1)", x.lasts(1), 500);
        due("9: rising lasts(1999)", x.lasts(1999), 999500);
    }

    private static void time() {
        TempoMaps x = new TempoMaps();
        x.step(0, 1000000);
        due("10: the longest without HOLDS", x.time(1000000), 1000000000000L);
        for (int i = 0; i < 20; i++) {
            x.hold(1000000 - i, 1000000000);
        }
        due("10: the longest", x.time(1000000), 1020000000000L);
        due("10: without the last HOLD", x.time(999999), 1018999000000L);
        due("10: time(0)", x.time(0), 0);
        due("10: time(-1)", x.time(-1), OUTSIDE);
        due("10: time(1000001)", x.time(1000001), OUTSIDE);
        due("10: time(LOW)", x.time(LOW), OUTSIDE);
        due("10: time(TOP)", x.time(TOP), OUTSIDE);
        x.step(10, 7);
        due("10: a MARK put ahead of HOLDS", x.time(20), 10000070L);
        x.step(0, 2);
        due("10: the MARK ahead is another", x.time(20), 90);
        timeOnSlope(7, 3, 5);
        timeOnSlope(7, 5, 3);
        timeOnSlope(1597, 987, 1);
        timeOnSlope(1999, 1, 1000000);
        timeOnSlope(2000, 777777, 13);
    }

    /** Each TICK of a SLOPE, and some behind it, BEGIN when those ahead have passed. */
    private static void timeOnSlope(int n, int p, int q) {
        TempoMaps x = new TempoMaps();
        x.slope(500, n, p, q);
        long begin = 500000;
        for (long k = 0; k < n + 5; k++) {
            String what = "10: slope(500, " + n + ", " + p + ", " + q + "), TICK " + k;
            due(what, x.time(500 + (int) k), begin);
            begin += k < n ? (p * n + (q - p) * k) / n : q;
        }
    }

    private static void tick() {
        TempoMaps x = new TempoMaps();
        x.hold(0, 10);
        x.step(0, 5);
        x.hold(2, 100);
        due("11: none has begun", x.tick(0), NONE);
        due("11: nor at 9", x.tick(9), NONE);
        due("11: TICK 0", x.tick(10), 0);
        due("11: TICK 0 still", x.tick(14), 0);
        due("11: TICK 1", x.tick(15), 1);
        due("11: the HOLD passes", x.tick(119), 1);
        due("11: TICK 2", x.tick(120), 2);
        due("11: the last but one", x.tick(x.time(1000000) - 1), 999999);
        due("11: the last", x.tick(x.time(1000000)), 1000000);
        due("11: all is over", x.tick(Long.MAX_VALUE), 1000000);
        due("11: tick(-1)", x.tick(-1), OUTSIDE);
        due("11: tick(least)", x.tick(Long.MIN_VALUE), OUTSIDE);
    }

    private static void held() {
        TempoMaps x = new TempoMaps();
        x.hold(0, 10);
        x.step(0, 5);
        x.hold(2, 100);
        x.hold(1000000, 50);
        long end = x.time(1000000);
        due("12: none has begun", x.held(0), 1);
        due("12: nor at 9", x.held(9), 1);
        due("12: TICK 0", x.held(10), 0);
        due("12: TICK 1 lasts", x.held(19), 0);
        due("12: TICK 1 lasts no more", x.held(20), 1);
        due("12: the HOLD still passes", x.held(119), 1);
        due("12: TICK 2", x.held(120), 0);
        due("12: the last TICK lasts", x.held(end - 51), 0);
        due("12: the last HOLD passes", x.held(end - 50), 1);
        due("12: and still", x.held(end - 1), 1);
        due("12: all is over", x.held(end), 1);
        due("12: long over", x.held(Long.MAX_VALUE), 1);
        due("12: held(-1)", x.held(-1), OUTSIDE);
        due("12: held(least)", x.held(Long.MIN_VALUE), OUTSIDE);
    }

    private static void frame() {
        TempoMaps x = new TempoMaps();
        due("13: frame(1, 999)", x.frame(1, 999), 0);
        due("13: frame(1, 1000)", x.frame(1, 1000), 1);
        due("13: frame(1, 44100)", x.frame(1, 44100), 44);
        due("13: frame(0, 1)", x.frame(0, 1), 0);
        due("13: frame(1000000, 192000)", x.frame(1000000, 192000), 192000000);
        due("13: frame(-1, 1)", x.frame(-1, 1), OUTSIDE);
        due("13: frame(1000001, 1)", x.frame(1000001, 1), OUTSIDE);
        due("13: frame(1, 0)", x.frame(1, 0), OUTSIDE);
        due("13: frame(1, 192001)", x.frame(1, 192001), OUTSIDE);
        due("13: frame(1, LOW)", x.frame(1, LOW), OUTSIDE);
        due("13: frame(TOP, 1)", x.frame(TOP, 1), OUTSIDE);
        x.hold(1, 999000);
        due("13: a HOLD passes ahead of it", x.frame(1, 1), 1);
        x.step(0, 1000000);
        x.hold(1000000, 1000000000);
        due("13: the most", x.frame(1000000, 192000), 192192191808L);
    }

    private static void tickOf() {
        TempoMaps x = new TempoMaps();
        due("14: tickOf(0, 44100)", x.tickOf(0, 44100), 0);
        due("14: tickOf(44, 44100)", x.tickOf(44, 44100), 1);
        due("14: tickOf(45, 44100)", x.tickOf(45, 44100), 2);
        due("14: tickOf(1, 1)", x.tickOf(1, 1), 1000);
        due("14: tickOf(2, 3)", x.tickOf(2, 3), 667);
        due("14: the last", x.tickOf(192000000, 192000), 1000000);
        due("14: none", x.tickOf(192000001, 192000), NONE);
        due("14: the greatest number", x.tickOf(Long.MAX_VALUE, 192000), NONE);
        due("14: a great one", x.tickOf(Long.MAX_VALUE / 1000000 + 1, 1), NONE);
        due("14: tickOf(-1, 1)", x.tickOf(-1, 1), OUTSIDE);
        due("14: tickOf(least, 1)", x.tickOf(Long.MIN_VALUE, 1), OUTSIDE);
        due("14: tickOf(1, 0)", x.tickOf(1, 0), OUTSIDE);
        due("14: tickOf(1, 192001)", x.tickOf(1, 192001), OUTSIDE);
        due("14: OUTSIDE goes ahead of NONE", x.tickOf(Long.MAX_VALUE, -1), OUTSIDE);
        x.hold(0, 5000000);
        due("14: TICK 0 begins late enough", x.tickOf(5, 1), 0);
        due("14: and no later", x.tickOf(6, 1), 1000);
        x.hold(0, 0);
        x.step(0, 1);
        due("14: to the UNIT, two thirds of a second", x.tickOf(2, 3), 666667);
        due("14: to the UNIT, a third", x.tickOf(1, 3), 333334);
        due("14: to the UNIT, a whole one", x.tickOf(3, 3), 1000000);
        due("14: to the UNIT, a half", x.tickOf(1, 2), 500000);
    }

    private static void tap() {
        TempoMaps x = new TempoMaps();
        due("15: tap(0)", x.tap(0), 1);
        due("15: the same again", x.tap(0), STATE);
        due("15: tap(5)", x.tap(5), 2);
        due("15: ahead of the latest", x.tap(4), STATE);
        due("15: tap(-1)", x.tap(-1), OUTSIDE);
        due("15: tap(1000000000001)", x.tap(1000000000001L), OUTSIDE);
        due("15: tap(least)", x.tap(Long.MIN_VALUE), OUTSIDE);
        due("15: tap(greatest)", x.tap(Long.MAX_VALUE), OUTSIDE);
        due("15: tap(1000000000000)", x.tap(1000000000000L), 3);
        due("15: how many", x.count(2), 3);
    }

    private static void tapsWithoutRoom() {
        TempoMaps x = new TempoMaps();
        for (int i = 0; i < 40; i++) {
            due("15: tap " + i, x.tap(100 + i), i + 1);
        }
        due("15: a 41st", x.tap(1000), ROOM);
        due("15: STATE goes ahead of ROOM", x.tap(139), STATE);
        due("15: OUTSIDE goes ahead of ROOM", x.tap(-1), OUTSIDE);
        due("15: how many", x.count(2), 40);
        due("16: noTaps makes room", x.noTaps(), 40);
        due("15: an early one is fine then", x.tap(0), 1);
    }

    private static void noTaps() {
        TempoMaps x = new TempoMaps();
        due("16: there were none", x.noTaps(), 0);
        x.tap(5);
        x.tap(6);
        x.step(3, 3);
        x.hold(3, 3);
        due("16: there were two", x.noTaps(), 2);
        due("16: there are none", x.count(2), 0);
        due("16: MARKS stay", x.count(0), 1);
        due("16: HOLDS stay", x.count(1), 1);
        due("16: no line is left", x.fit(0), STATE);
        due("16: again", x.noTaps(), 0);
    }

    private static void fit() {
        TempoMaps x = new TempoMaps();
        due("17: no TAPS", x.fit(0), STATE);
        x.tap(100);
        due("17: one TAP", x.fit(1), STATE);
        due("17: OUTSIDE goes ahead of STATE", x.fit(2), OUTSIDE);
        x.tap(107);
        due("17: two TAPS, above", x.fit(0), 7);
        due("17: two TAPS, below", x.fit(1), 1);
        x.tap(120);
        x.tap(121);
        due("17: four TAPS, above", x.fit(0), 38);
        due("17: four TAPS, below", x.fit(1), 5);
        due("17: fit(-1)", x.fit(-1), OUTSIDE);
        due("17: fit(LOW)", x.fit(LOW), OUTSIDE);
        x.noTaps();
        for (int i = 0; i < 20; i++) {
            x.tap(i);
        }
        for (int i = 0; i < 20; i++) {
            x.tap(1000000000000L - 19 + i);
        }
        due("17: the steepest of 40 TAPS, above", x.fit(0), 19999999999753L);
        due("17: the steepest of 40 TAPS, below", x.fit(1), 533);
    }

    private static void pace() {
        TempoMaps x = new TempoMaps();
        due("18: no TAPS", x.pace(1), STATE);
        x.tap(0);
        due("18: one TAP", x.pace(1), STATE);
        due("18: OUTSIDE goes ahead of STATE", x.pace(0), OUTSIDE);
        x.tap(15);
        due("18: pace(1)", x.pace(1), 15);
        due("18: 7.5 is as near to 7", x.pace(2), 7);
        due("18: 3.75", x.pace(4), 4);
        due("18: 2.14", x.pace(7), 2);
        due("18: 0.5", x.pace(30), 0);
        due("18: 0.517", x.pace(29), 1);
        due("18: nearly none", x.pace(100000), 0);
        due("18: pace(100001)", x.pace(100001), OUTSIDE);
        due("18: pace(-1)", x.pace(-1), OUTSIDE);
        due("18: pace(LOW)", x.pace(LOW), OUTSIDE);
        due("18: pace(TOP)", x.pace(TOP), OUTSIDE);
        x.noTaps();
        x.tap(0);
        x.tap(1000000000000L);
        due("18: the greatest", x.pace(1), 1000000000000L);
        due("18: the greatest by the most", x.pace(100000), 10000000);
    }

    private static void refusedCallsChangeNothing() {
        TempoMaps x = new TempoMaps();
        x.slope(10, 10, 5, 50);
        x.hold(12, 9);
        x.tap(3);
        x.tap(9);
        x.step(15, 1);
        x.step(10, 0);
        x.slope(5, 8, 1, 1);
        x.slope(10, 3000, 1, 1);
        x.modulate(12, 1, 1);
        x.modulate(10, 0, 1);
        x.drop(11);
        x.hold(12, -1);
        x.tap(9);
        x.tap(-1);
        x.fit(2);
        x.pace(0);
        due("terms: MARKS", x.count(0), 1);
        due("terms: p", x.mark(0, 2), 5);
        due("terms: q", x.mark(0, 3), 50);
        due("terms: n", x.mark(0, 4), 10);
        due("terms: HOLDS", x.count(1), 1);
        due("terms: time(20)", x.time(20), 10000 + 9 + 5 * 10 + 4 * 45 + 20);
        due("terms: TAPS", x.count(2), 2);
        due("terms: fit(0)", x.fit(0), 6);
    }
}
