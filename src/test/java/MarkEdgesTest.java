/** Promises 1 to 8: each sentence that names a boundary case has a test of its own. */
public final class MarkEdgesTest {
    private static final int NONE = -1;
    private static final int OUTSIDE = -2;
    private static final int STATE = -3;
    private static final int ROOM = -4;
    private static final int LOW = Integer.MIN_VALUE;
    private static final int TOP = Integer.MAX_VALUE;

    private static String sentence = "";
    private static int sentences = 0;
    private static int wrong = 0;

    private static void says(String words) {
        sentence = words;
        sentences++;
    }

    private static void due(String call, long got, long want) {
        if (got != want) {
            wrong++;
            System.out.println("\"" + sentence + "\": " + call + " answered " + got + ", due is " + want);
        }
    }

    public static void main(String[] args) {
        newObject();
        stepInPlace();
        stepOutside();
        stepOnSlope();
        stepWithoutRoom();
        slopeInPlace();
        slopeOutside();
        slopeEndsOutside();
        slopeOnSlope();
        markOnSlope();
        slopeWithoutRoom();
        modulateTicks();
        modulateQuotients();
        modulateRounds();
        modulateOutside();
        modulateOnSlope();
        modulateToNoPace();
        modulateWithoutRoom();
        drop();
        dropOfNone();
        holdInPlace();
        holdOfNoUnits();
        holdOutside();
        holdWithoutRoom();
        mark();
        markByTicks();
        markOfNone();
        markOutside();
        count();
        countOutside();
        System.out.println(wrong == 0 ? "all " + sentences + " sentences hold" : wrong + " answers are not as due");
        if (wrong != 0) {
            System.exit(1);
        }
    }

    private static TempoMaps withSteps(int many) {
        TempoMaps x = new TempoMaps();
        for (int i = 0; i < many; i++) {
            x.step(100 + 10 * i, 50 + i);
        }
        return x;
    }

    /** From TICK 10 on 50, 52, 54, 56, 58 UNITS, then 60. */
    private static TempoMaps withSlope() {
        TempoMaps x = new TempoMaps();
        x.slope(10, 5, 50, 60);
        return x;
    }

    private static TempoMaps withHolds(int many) {
        TempoMaps x = new TempoMaps();
        for (int i = 0; i < many; i++) {
            x.hold(100 + 10 * i, 1 + i);
        }
        return x;
    }

    private static void newObject() {
        says("1: No MARKS, HOLDS, TAPS");
        TempoMaps x = new TempoMaps();
        for (int what = 0; what < 3; what++) {
            due("count(" + what + ")", x.count(what), 0);
        }
        for (int what = 0; what < 5; what++) {
            due("mark(0, " + what + ")", x.mark(0, what), NONE);
        }
        due("lasts(0)", x.lasts(0), 1000);
        due("time(0)", x.time(0), 0);
        due("time(1000000)", x.time(1000000), 1000000000L);
        due("drop(0)", x.drop(0), STATE);
        due("hold(0, 0)", x.hold(0, 0), 0);
        due("fit(0)", x.fit(0), STATE);
        due("pace(1)", x.pace(1), STATE);
        due("noTaps()", x.noTaps(), 0);
    }

    private static void stepInPlace() {
        says("2: A STEP at a TICK, in place of a MARK that is there: how many MARKS there are");
        TempoMaps x = withSteps(40);
        due("in place of the first, with the most there", x.step(100, 7), 40);
        due("in place of the last", x.step(490, 8), 40);
        due("the first lasts", x.lasts(100), 7);
        due("the second stays", x.lasts(110), 51);
        due("the last lasts", x.lasts(999999), 8);
        TempoMaps y = withSlope();
        due("in place of a SLOPE", y.step(10, 7), 1);
        due("none of its TICKS is left", y.lasts(14), 7);
        due("where its TICKS were", y.step(14, 9), 2);
        due("at TICK 0", y.step(0, 1), 3);
        due("at TICK 0 again", y.step(0, 2), 3);
        due("at TICK 999999", y.step(999999, 1), 4);
        due("at TICK 999999 again", y.step(999999, 2), 4);
    }

    private static void stepOutside() {
        says("2: OUTSIDE");
        for (int tick : new int[] {LOW, -1, 1000000, TOP}) {
            due("step(" + tick + ", 5)", new TempoMaps().step(tick, 5), OUTSIDE);
        }
        for (int p : new int[] {LOW, -1, 0, 1000001, TOP}) {
            due("step(5, " + p + ")", new TempoMaps().step(5, p), OUTSIDE);
            due("step(10, " + p + ") in place", withSlope().step(10, p), OUTSIDE);
        }
    }

    private static void stepOnSlope() {
        says("2: STATE: it is on the TICKS of a SLOPE (but its first one)");
        due("ahead of it", withSlope().step(9, 7), 2);
        due("the first one", withSlope().step(10, 7), 1);
        due("the second one", withSlope().step(11, 7), STATE);
        due("the last one", withSlope().step(14, 7), STATE);
        due("behind them", withSlope().step(15, 7), 2);
        TempoMaps x = withSlope();
        x.slope(15, 5, 1, 1);
        due("the last one, with another SLOPE behind", x.step(14, 7), STATE);
        due("the other SLOPE's second one", x.step(16, 7), STATE);
        due("the other SLOPE's first one", x.step(15, 7), 2);
    }

    private static void stepWithoutRoom() {
        says("2: ROOM");
        TempoMaps x = withSteps(39);
        due("the 40th", x.step(999999, 5), 40);
        due("the 41st", x.step(0, 5), ROOM);
        due("in place there is room", x.step(100, 5), 40);
        due("one goes", x.drop(100), 39);
        due("the 40th again", x.step(0, 5), 40);
        due("the 41st again", x.step(1, 5), ROOM);
    }

    private static void slopeInPlace() {
        says("3: A SLOPE at a TICK, likewise: how many MARKS");
        TempoMaps x = withSteps(40);
        due("in place of the first, with the most there", x.slope(100, 10, 7, 8), 40);
        due("in place of the last", x.slope(490, 2000, 9, 10), 40);
        due("the first lasts", x.lasts(100), 7);
        due("the first is a SLOPE", x.mark(0, 1), 1);
        due("the second stays", x.lasts(110), 51);
        due("the last lasts", x.lasts(490), 9);
        due("behind the last", x.lasts(2490), 10);
        TempoMaps y = withSlope();
        due("in place of a SLOPE, shorter", y.slope(10, 1, 3, 4), 1);
        due("where its TICKS were", y.lasts(11), 4);
        due("a STEP there", y.step(11, 9), 2);
    }

    private static void slopeOutside() {
        says("3: OUTSIDE");
        for (int tick : new int[] {LOW, -1, 1000000, TOP}) {
            due("slope(" + tick + ", 1, 5, 6)", new TempoMaps().slope(tick, 1, 5, 6), OUTSIDE);
        }
        for (int n : new int[] {LOW, -1, 0, 2001, TOP}) {
            due("slope(5, " + n + ", 5, 6)", new TempoMaps().slope(5, n, 5, 6), OUTSIDE);
            due("slope(10, " + n + ", 5, 6) in place", withSlope().slope(10, n, 5, 6), OUTSIDE);
        }
        for (int pace : new int[] {LOW, -1, 0, 1000001, TOP}) {
            due("slope(5, 5, " + pace + ", 6)", new TempoMaps().slope(5, 5, pace, 6), OUTSIDE);
            due("slope(5, 5, 6, " + pace + ")", new TempoMaps().slope(5, 5, 6, pace), OUTSIDE);
        }
        due("the least of all", new TempoMaps().slope(0, 1, 1, 1), 1);
        due("the most of all", new TempoMaps().slope(998000, 2000, 1000000, 1000000), 1);
    }

    private static void slopeEndsOutside() {
        says("3: OUTSIDE: also where its TICKS would end");
        due("slope(998000, 2000, ..)", new TempoMaps().slope(998000, 2000, 1, 1), 1);
        due("slope(998001, 2000, ..)", new TempoMaps().slope(998001, 2000, 1, 1), OUTSIDE);
        due("slope(999999, 1, ..)", new TempoMaps().slope(999999, 1, 1, 1), 1);
        due("slope(999999, 2, ..)", new TempoMaps().slope(999999, 2, 1, 1), OUTSIDE);
        due("slope(TOP, TOP, ..)", new TempoMaps().slope(TOP, TOP, 1, 1), OUTSIDE);
        due("slope(LOW, LOW, ..)", new TempoMaps().slope(LOW, LOW, 1, 1), OUTSIDE);
        due("slope(LOW, TOP, ..)", new TempoMaps().slope(LOW, TOP, 1, 1), OUTSIDE);
        TempoMaps x = new TempoMaps();
        x.slope(998000, 2000, 5, 6);
        due("OUTSIDE ahead of STATE", x.slope(998001, 2000, 1, 1), OUTSIDE);
        due("STATE where it ends in time", x.slope(998001, 1999, 1, 1), STATE);
    }

    private static void slopeOnSlope() {
        says("3: STATE: it is on the TICKS of another SLOPE (but its first one)");
        due("the first one", withSlope().slope(10, 5, 7, 7), 1);
        due("the second one", withSlope().slope(11, 4, 7, 7), STATE);
        due("the last one", withSlope().slope(14, 1, 7, 7), STATE);
        due("behind them", withSlope().slope(15, 1, 7, 7), 2);
    }

    private static void markOnSlope() {
        says("3: or another MARK would be on its own (but the first one)");
        due("a STEP on its second one", withSteps(1).slope(99, 2, 7, 7), STATE);
        due("a STEP on its last one", withSteps(1).slope(91, 10, 7, 7), STATE);
        due("a STEP behind them", withSteps(1).slope(90, 10, 7, 7), 2);
        due("a STEP on its first one", withSteps(1).slope(100, 2000, 7, 7), 1);
        due("a STEP on its first one, and one behind them", withSteps(2).slope(100, 10, 7, 7), 2);
        due("a STEP on its first one, and one on its last", withSteps(2).slope(100, 11, 7, 7), STATE);
        due("a SLOPE on its last one", withSlope().slope(9, 2, 7, 7), STATE);
        due("a SLOPE behind them", withSlope().slope(9, 1, 7, 7), 2);
        due("a SLOPE that is all on it", withSlope().slope(9, 2000, 7, 7), STATE);
    }

    private static void slopeWithoutRoom() {
        says("3: ROOM");
        TempoMaps x = withSteps(39);
        due("the 40th", x.slope(998000, 2000, 5, 6), 40);
        due("the 41st", x.slope(0, 1, 5, 6), ROOM);
        due("in place there is room", x.slope(100, 1, 5, 6), 40);
        due("one goes", x.drop(100), 39);
        due("the 40th again", x.slope(0, 1, 5, 6), 40);
        due("the 41st again", x.slope(1, 1, 5, 6), ROOM);
    }

    private static void modulateTicks() {
        says("4: A STEP at a TICK (1 to 999999)");
        due("modulate(0, 1, 1)", new TempoMaps().modulate(0, 1, 1), OUTSIDE);
        due("modulate(1, 1, 1)", new TempoMaps().modulate(1, 1, 1), 1000);
        due("modulate(999999, 1, 1)", new TempoMaps().modulate(999999, 1, 1), 1000);
        due("modulate(1000000, 1, 1)", new TempoMaps().modulate(1000000, 1, 1), OUTSIDE);
        TempoMaps x = withSteps(40);
        due("in place, with the most there", x.modulate(110, 3, 1), 150);
        due("in place of the first", x.modulate(100, 1, 1), 1000);
        due("how many", x.count(0), 40);
        due("it is there", x.lasts(110), 150);
    }

    private static void modulateQuotients() {
        says("4: of a PACE by u / v (1 to 1000 each)");
        due("1 / 1000", new TempoMaps().modulate(5, 1, 1000), 1);
        due("1000 / 1", new TempoMaps().modulate(5, 1000, 1), 1000000);
        due("1000 / 1000", new TempoMaps().modulate(5, 1000, 1000), 1000);
        due("1 / 1", new TempoMaps().modulate(5, 1, 1), 1000);
        due("0 / 1", new TempoMaps().modulate(5, 0, 1), OUTSIDE);
        due("1001 / 1", new TempoMaps().modulate(5, 1001, 1), OUTSIDE);
        due("1 / 0", new TempoMaps().modulate(5, 1, 0), OUTSIDE);
        due("1 / 1001", new TempoMaps().modulate(5, 1, 1001), OUTSIDE);
        due("1001 / 1001", new TempoMaps().modulate(5, 1001, 1001), OUTSIDE);
    }

    private static void modulateRounds() {
        says("4: of what the TICK ahead of it lasts, rounded downward: that PACE");
        due("1000 by 2 / 3", new TempoMaps().modulate(5, 2, 3), 666);
        due("1000 by 999 / 1000", new TempoMaps().modulate(5, 999, 1000), 999);
        due("1000 by 1 / 999", new TempoMaps().modulate(5, 1, 999), 1);
        due("on the first TICK behind a SLOPE, of its last", withSlope().modulate(15, 10, 1), 580);
        due("on the second one, of q", withSlope().modulate(16, 10, 1), 600);
        TempoMaps x = withSlope();
        due("in place of a SLOPE, of the TICK ahead", x.modulate(10, 1, 3), 333);
        due("the SLOPE is gone", x.mark(0, 4), 0);
        due("in place of that, of the TICK ahead", x.modulate(10, 2, 1), 2000);
        x.hold(10, 777);
        due("a HOLD is no part of it", x.modulate(10, 2, 1), 2000);
        TempoMaps y = new TempoMaps();
        y.step(0, 1000000);
        due("the most by 1", y.modulate(1, 1000, 1000), 1000000);
        due("the most by 1 / 1000", y.modulate(1, 1, 1000), 1000);
        TempoMaps z = new TempoMaps();
        z.step(0, 1);
        due("the least by 1000", z.modulate(1, 1000, 1), 1000);
        due("the least by 1", z.modulate(1, 1000, 1000), 1);
        due("the least by nearly 2", z.modulate(1, 999, 500), 1);
    }

    private static void modulateOutside() {
        says("4: OUTSIDE");
        for (int tick : new int[] {LOW, -1, 0, 1000000, TOP}) {
            due("modulate(" + tick + ", 1, 1)", new TempoMaps().modulate(tick, 1, 1), OUTSIDE);
        }
        for (int part : new int[] {LOW, -1, 0, 1001, TOP}) {
            due("modulate(5, " + part + ", 1)", new TempoMaps().modulate(5, part, 1), OUTSIDE);
            due("modulate(5, 1, " + part + ")", new TempoMaps().modulate(5, 1, part), OUTSIDE);
            due("modulate(5, " + part + ", " + part + ")", new TempoMaps().modulate(5, part, part), OUTSIDE);
            due("modulate(12, 1, " + part + ") on a SLOPE", withSlope().modulate(12, 1, part), OUTSIDE);
        }
    }

    private static void modulateOnSlope() {
        says("4: STATE: as of step()");
        due("ahead of a SLOPE", withSlope().modulate(9, 1, 1), 1000);
        due("a SLOPE's first TICK", withSlope().modulate(10, 1, 1), 1000);
        due("a SLOPE's second TICK", withSlope().modulate(11, 1, 1), STATE);
        due("a SLOPE's last TICK", withSlope().modulate(14, 1, 1), STATE);
        due("behind them", withSlope().modulate(15, 1, 1), 58);
    }

    /** The PACE that modulate() answers at TICK 1 where TICK 0 lasts so many UNITS. */
    private static int paceBehind(int units, int u, int v) {
        TempoMaps x = new TempoMaps();
        x.step(0, units);
        return x.modulate(1, u, v);
    }

    private static void modulateToNoPace() {
        says("4: STATE: or the PACE would be none");
        due("1", paceBehind(1000, 1, 1000), 1);
        due("nearly 1", paceBehind(999, 1, 1000), STATE);
        due("nearly 1, of the least", paceBehind(1, 999, 1000), STATE);
        due("next to nothing", paceBehind(1, 1, 1000), STATE);
        due("1000000", paceBehind(750000, 4, 3), 1000000);
        due("1000000 and a half, rounded downward", paceBehind(666667, 3, 2), 1000000);
        due("1000001 and a third", paceBehind(750001, 4, 3), STATE);
        due("1001000", paceBehind(1001, 1000, 1), STATE);
        due("1001001", paceBehind(1000000, 1000, 999), STATE);
        due("1000000000", paceBehind(1000000, 1000, 1), STATE);
    }

    private static void modulateWithoutRoom() {
        says("4: ROOM");
        TempoMaps x = withSteps(39);
        due("the 40th", x.modulate(999999, 1, 1), 88);
        due("how many", x.count(0), 40);
        due("the 41st", x.modulate(1, 1, 1), ROOM);
        due("in place there is room", x.modulate(100, 1, 1), 1000);
        due("one goes", x.drop(100), 39);
        due("the 40th again", x.modulate(1, 1, 2), 500);
        due("the 41st again", x.modulate(2, 1, 1), ROOM);
    }

    private static void drop() {
        says("5: The MARK at a TICK goes: how many there are");
        TempoMaps x = withSteps(40);
        due("the first of the most", x.drop(100), 39);
        due("the last", x.drop(490), 38);
        due("one among them", x.drop(300), 37);
        due("what is the first then", x.mark(0, 0), 110);
        due("what is the last then", x.mark(36, 0), 480);
        due("there is none behind", x.mark(37, 0), NONE);
        due("ahead of what is the first then", x.lasts(109), 1000);
        due("the one ahead goes on", x.lasts(300), 69);
        TempoMaps y = new TempoMaps();
        y.slope(0, 2000, 5, 6);
        y.step(999999, 5);
        due("at TICK 999999", y.drop(999999), 1);
        due("it is gone", y.lasts(999999), 6);
        due("at TICK 0", y.drop(0), 0);
        due("a SLOPE's TICKS go with it", y.time(2000), 2000000);
        due("they are free", y.step(1, 5), 1);
    }

    private static void dropOfNone() {
        says("5: STATE: there is none");
        for (int tick : new int[] {LOW, -1, 0, 1, 999999, 1000000, 1000001, TOP}) {
            due("drop(" + tick + ") of a new object", new TempoMaps().drop(tick), STATE);
            due("drop(" + tick + ") of the most", withSteps(40).drop(tick), STATE);
        }
        due("ahead of a SLOPE", withSlope().drop(9), STATE);
        due("a SLOPE's second TICK", withSlope().drop(11), STATE);
        due("a SLOPE's last TICK", withSlope().drop(14), STATE);
        due("behind its TICKS", withSlope().drop(15), STATE);
        due("a HOLD's TICK", withHolds(1).drop(100), STATE);
        TempoMaps x = withSlope();
        due("the one that is there", x.drop(10), 0);
        due("the one that went", x.drop(10), STATE);
    }

    private static void holdInPlace() {
        says("6: A HOLD at a TICK, in place of one that is there");
        TempoMaps x = withHolds(20);
        due("in place of the first, with the most there", x.hold(100, 1000), 20);
        due("in place of the last", x.hold(290, 2000), 20);
        due("all of them", x.time(290), 290000 + 210 - 21 + 3000);
        due("all but the last", x.time(289), 289000 + 210 - 21 + 1000);
        due("the first", x.time(100), 101000);
        TempoMaps y = new TempoMaps();
        due("at TICK 0", y.hold(0, 5), 1);
        due("at TICK 0 again", y.hold(0, 6), 1);
        due("at TICK 1000000", y.hold(1000000, 5), 2);
        due("at TICK 1000000 again", y.hold(1000000, 6), 2);
    }

    private static void holdOfNoUnits() {
        says("6: 0 UNITS: none is there then: how many HOLDS there are");
        due("of none at all", new TempoMaps().hold(5, 0), 0);
        TempoMaps x = withHolds(20);
        due("where none is, with the most there", x.hold(5, 0), 20);
        due("the first", x.hold(100, 0), 19);
        due("the first again", x.hold(100, 0), 19);
        due("the last", x.hold(290, 0), 18);
        due("one among them", x.hold(200, 0), 17);
        due("those that are left", x.time(290), 290000 + 210 - 1 - 20 - 11);
        due("those up to TICK 280", x.time(280), 280000 + 210 - 1 - 20 - 11);
        due("at TICK 0, where none is", x.hold(0, 0), 17);
        due("at TICK 1000000, where none is", x.hold(1000000, 0), 17);
    }

    private static void holdOutside() {
        says("6: OUTSIDE");
        for (int tick : new int[] {LOW, -1, 1000001, TOP}) {
            due("hold(" + tick + ", 0)", new TempoMaps().hold(tick, 0), OUTSIDE);
            due("hold(" + tick + ", 1)", new TempoMaps().hold(tick, 1), OUTSIDE);
        }
        for (int units : new int[] {LOW, -1, 1000000001, TOP}) {
            due("hold(5, " + units + ")", new TempoMaps().hold(5, units), OUTSIDE);
            due("hold(100, " + units + ") in place", withHolds(1).hold(100, units), OUTSIDE);
        }
    }

    private static void holdWithoutRoom() {
        says("6: ROOM");
        TempoMaps x = withHolds(19);
        due("the 20th", x.hold(1000000, 1000000000), 20);
        due("the 21st", x.hold(0, 1), ROOM);
        due("in place there is room", x.hold(100, 1), 20);
        due("one goes", x.hold(100, 0), 19);
        due("the 20th again", x.hold(0, 1), 20);
        due("the 21st again", x.hold(1, 1), ROOM);
        due("all of them", x.time(1000000), 2000000000L + 190);
    }

    private static void mark() {
        says("7: its TICK, whether it is a SLOPE (1, 0), p, q (of a STEP p), n (of a STEP 0)");
        TempoMaps x = new TempoMaps();
        x.slope(998000, 2000, 1000000, 1);
        x.step(0, 1000000);
        x.slope(500, 1, 1, 1000000);
        x.step(499, 1);
        x.slope(600, 2, 5, 5);
        int[][] want = {{0, 0, 1000000, 1000000, 0}, {499, 0, 1, 1, 0}, {500, 1, 1, 1000000, 1}, {600, 1, 5, 5, 2},
            {998000, 1, 1000000, 1, 2000}};
        for (int i = 0; i < want.length; i++) {
            for (int what = 0; what < 5; what++) {
                due("mark(" + i + ", " + what + ")", x.mark(i, what), want[i][what]);
            }
        }
    }

    private static void markByTicks() {
        says("7: Of MARK i by TICKS");
        TempoMaps x = new TempoMaps();
        for (int i = 0; i < 40; i++) {
            int place = i * 17 % 40;
            x.slope(3 * place, 1 + place % 3, 7 + place, 90 - place);
        }
        for (int i = 0; i < 40; i++) {
            due("of the most: TICK of " + i, x.mark(i, 0), 3 * i);
            due("of the most: p of " + i, x.mark(i, 2), 7 + i);
            due("of the most: q of " + i, x.mark(i, 3), 90 - i);
            due("of the most: n of " + i, x.mark(i, 4), 1 + i % 3);
        }
    }

    private static void markOfNone() {
        says("7: NONE: there is none such");
        for (int what = 0; what < 5; what++) {
            due("of none, mark(0, " + what + ")", new TempoMaps().mark(0, what), NONE);
            for (int i : new int[] {LOW, -1, 1, 39, 40, TOP}) {
                due("of one, mark(" + i + ", " + what + ")", withSlope().mark(i, what), NONE);
            }
            for (int i : new int[] {LOW, -1, 40, 41, TOP}) {
                due("of the most, mark(" + i + ", " + what + ")", withSteps(40).mark(i, what), NONE);
            }
        }
    }

    private static void markOutside() {
        says("7: OUTSIDE: what");
        for (int what : new int[] {LOW, -1, 5, TOP}) {
            due("of none, mark(0, " + what + ")", new TempoMaps().mark(0, what), OUTSIDE);
            due("mark(0, " + what + ")", withSlope().mark(0, what), OUTSIDE);
            due("mark(1, " + what + ")", withSlope().mark(1, what), OUTSIDE);
            due("mark(-1, " + what + ")", withSlope().mark(-1, what), OUTSIDE);
        }
    }

    private static void count() {
        says("8: How many MARKS (what = 0), HOLDS (1), TAPS (2)");
        TempoMaps x = withSteps(40);
        for (int i = 0; i < 20; i++) {
            x.hold(i, 1);
        }
        for (int i = 0; i < 40; i++) {
            x.tap(i);
        }
        due("the most MARKS", x.count(0), 40);
        due("the most HOLDS", x.count(1), 20);
        due("the most TAPS", x.count(2), 40);
        due("of MARKS alone, HOLDS", withSteps(3).count(1), 0);
        due("of MARKS alone, TAPS", withSteps(3).count(2), 0);
        due("of HOLDS alone, MARKS", withHolds(3).count(0), 0);
        due("of HOLDS alone, TAPS", withHolds(3).count(2), 0);
        TempoMaps y = new TempoMaps();
        y.tap(1);
        due("of TAPS alone, MARKS", y.count(0), 0);
        due("of TAPS alone, HOLDS", y.count(1), 0);
    }

    private static void countOutside() {
        says("8: OUTSIDE");
        for (int what : new int[] {LOW, -1, 3, TOP}) {
            due("count(" + what + ")", new TempoMaps().count(what), OUTSIDE);
            due("count(" + what + ") of some", withSteps(3).count(what), OUTSIDE);
        }
    }
}
