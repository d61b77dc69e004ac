import java.math.BigInteger;

/**
 * The document's "What it is" and "Terms": each sentence that names a boundary case has a test of its own.
 * That a refused call changes nothing has its tests in RefusalsTest.
 */
public final class TermsTest {
    private static final int NONE = -1;
    private static final int OUTSIDE = -2;
    private static final int STATE = -3;
    private static final int ROOM = -4;
    private static final long LATEST_TAP = 1000000000000L;

    private static String sentence = "";
    private static int sentences = 0;
    private static int wrong = 0;

    private static void says(String words) {
        sentence = words;
        sentences++;
    }

    private static void due(String call, long got, long want) {
        if (got != want) {
            wrong++;
            System.out.println("\"" + sentence + "\": " + call + " answered " + got + ", due is " + want);
        }
    }

    public static void main(String[] args) {
        mostCalls();
        ticks();
        units();
        mostMarks();
        noMarks();
        ticksOfMarks();
        oneMarkAtATick();
        pacesOfSteps();
        ticksOfSteps();
        numbersOfSlopes();
        ticksOfSlopes();
        behindSlopes();
        endsOfSlopes();
        marksOnSlopes();
        upToTheNextMark();
        aheadOfTheFirstMark();
        mostHolds();
        noHolds();
        ticksOfHolds();
        oneHoldAtATick();
        unitsOfHolds();
        aheadOfTheTick();
        begins();
        lastTickBegins();
        firstThatFitsOfMarks();
        firstThatFitsOfOthers();
        System.out.println(wrong == 0 ? "all " + sentences + " sentences hold" : wrong + " answers are not as due");
        if (wrong != 0) {
            System.exit(1);
        }
    }

    private static TempoMaps withSteps(int many) {
        TempoMaps x = new TempoMaps();
        for (int i = 0; i < many; i++) {
            x.step(100 + 10 * i, 50 + i);
        }
        return x;
    }

    private static TempoMaps withSlope(int tick, int n) {
        TempoMaps x = new TempoMaps();
        x.slope(tick, n, 50, 60);
        return x;
    }

    private static TempoMaps withHolds(int many) {
        TempoMaps x = new TempoMaps();
        for (int i = 0; i < many; i++) {
            x.hold(100 + 10 * i, 1 + i);
        }
        return x;
    }

    private static long floor(long above, long below) {
        BigInteger[] parts = BigInteger.valueOf(above).divideAndRemainder(BigInteger.valueOf(below));
        return parts[0].longValueExact() - (parts[1].signum() < 0 ? 1 : 0);
    }

    private static void mostCalls() {
        says("An object is used for at most 512 calls after it has been made");
        TempoMaps x = new TempoMaps();
        for (int i = 0; i < 255; i++) {
            due("put " + i, x.slope(10 * i, 3, 5, 9), 1);
            due("drop " + i, x.drop(10 * i), 0);
        }
        due("the 511th call", x.step(999999, 7), 1);
        due("the 512th call", x.time(1000000), 999999007L);
        TempoMaps y = new TempoMaps();
        for (int i = 0; i < 512; i++) {
            due("hold " + i, y.hold(i % 20, 1 + i), Math.min(i + 1, 20));
        }
        TempoMaps z = new TempoMaps();
        for (int i = 0; i < 512; i++) {
            boolean isLast = i % 41 == 40;
            due("tap " + i, isLast ? z.noTaps() : z.tap(i), isLast ? 40 : i % 41 + 1);
        }
    }

    private static void ticks() {
        says("TICKS are 0 to 1000000");
        TempoMaps x = new TempoMaps();
        due("time(0)", x.time(0), 0);
        due("time(1000000)", x.time(1000000), 1000000000L);
        due("time(-1)", x.time(-1), OUTSIDE);
        due("time(1000001)", x.time(1000001), OUTSIDE);
        due("the first TICK of all", x.tick(0), 0);
        due("the last TICK of all", x.tick(Long.MAX_VALUE), 1000000);
    }

    private static void units() {
        says("TIME is counted in UNITS (a million of them a second)");
        TempoMaps x = new TempoMaps();
        x.step(0, 1);
        due("frame(999999, 1)", x.frame(999999, 1), 0);
        due("frame(1000000, 1)", x.frame(1000000, 1), 1);
        due("tickOf(1, 1)", x.tickOf(1, 1), 1000000);
    }

    private static void mostMarks() {
        says("MARKS, 40 at most");
        due("the 40th, a STEP", withSteps(39).step(5, 1), 40);
        due("the 41st, a STEP", withSteps(40).step(5, 1), ROOM);
        due("the 40th, a SLOPE", withSteps(39).slope(5, 4, 1, 2), 40);
        due("the 41st, a SLOPE", withSteps(40).slope(5, 4, 1, 2), ROOM);
        TempoMaps x = withSteps(39);
        due("the 40th, by a quotient", x.modulate(5, 1, 2), 500);
        due("it is the 40th", x.count(0), 40);
        due("the 41st, by a quotient", withSteps(40).modulate(5, 1, 2), ROOM);
        due("behind all, the 41st", withSteps(40).step(999999, 1), ROOM);
        due("among all, the 41st", withSteps(40).step(305, 1), ROOM);
        due("the 40th MARK's TICK", withSteps(40).mark(39, 0), 490);
        due("the 40th MARK rules", withSteps(40).lasts(490), 89);
    }

    private static void noMarks() {
        says("MARKS, 40 at most (and none)");
        due("none", new TempoMaps().count(0), 0);
        TempoMaps x = withSteps(40);
        for (int i = 39; i >= 0; i--) {
            due("the most, and then one less", x.drop(100 + 10 * i), i);
        }
        due("none again", x.time(1000000), 1000000000L);
        due("one behind none", x.slope(5, 5, 5, 5), 1);
    }

    private static void ticksOfMarks() {
        says("MARKS .. at TICKS 0 to 999999");
        TempoMaps x = new TempoMaps();
        due("step(0, 3)", x.step(0, 3), 1);
        due("step(999999, 4)", x.step(999999, 4), 2);
        due("step(-1, 3)", x.step(-1, 3), OUTSIDE);
        due("step(1000000, 3)", x.step(1000000, 3), OUTSIDE);
        due("slope(0, 1, 3, 3)", x.slope(0, 1, 3, 3), 2);
        due("slope(999999, 1, 4, 4)", x.slope(999999, 1, 4, 4), 2);
        due("slope(-1, 1, 3, 3)", x.slope(-1, 1, 3, 3), OUTSIDE);
        due("slope(1000000, 1, 3, 3)", x.slope(1000000, 1, 3, 3), OUTSIDE);
        due("time(1000000)", x.time(1000000), 3L * 999999 + 4);
    }

    private static void oneMarkAtATick() {
        says("MARKS .. at each one at most");
        TempoMaps x = new TempoMaps();
        due("step(7, 3)", x.step(7, 3), 1);
        due("slope(7, 2, 4, 6)", x.slope(7, 2, 4, 6), 1);
        due("it is a SLOPE", x.mark(0, 1), 1);
        due("modulate(7, 1, 1)", x.modulate(7, 1, 1), 1000);
        due("it is a STEP", x.mark(0, 1), 0);
        due("how many", x.count(0), 1);
        due("there is no second", x.mark(1, 0), NONE);
    }

    private static void pacesOfSteps() {
        says("A STEP, of PACE p (1 to 1000000)");
        TempoMaps x = new TempoMaps();
        due("step(10, 1)", x.step(10, 1), 1);
        due("lasts(10)", x.lasts(10), 1);
        due("step(10, 1000000)", x.step(10, 1000000), 1);
        due("lasts(10) then", x.lasts(10), 1000000);
        due("step(10, 0)", x.step(10, 0), OUTSIDE);
        due("step(10, 1000001)", x.step(10, 1000001), OUTSIDE);
    }

    private static void ticksOfSteps() {
        says("from its TICK on each TICK lasts p UNITS");
        TempoMaps x = new TempoMaps();
        x.step(10, 7);
        due("lasts(9)", x.lasts(9), 1000);
        due("lasts(10)", x.lasts(10), 7);
        due("lasts(11)", x.lasts(11), 7);
        due("lasts(999999)", x.lasts(999999), 7);
        due("time(10)", x.time(10), 10000);
        due("time(11)", x.time(11), 10007);
    }

    private static void numbersOfSlopes() {
        says("A SLOPE, from p to q (1 to 1000000 each) over n TICKS (1 to 2000)");
        TempoMaps x = new TempoMaps();
        due("slope(0, 1, 1, 1)", x.slope(0, 1, 1, 1), 1);
        due("the least it can last", x.time(1000000), 1000000);
        due("slope(0, 2000, 1000000, 1000000)", x.slope(0, 2000, 1000000, 1000000), 1);
        due("the most it can last", x.time(1000000), 1000000000000L);
        due("n = 0", x.slope(0, 0, 5, 5), OUTSIDE);
        due("n = 2001", x.slope(0, 2001, 5, 5), OUTSIDE);
        due("p = 0", x.slope(0, 5, 0, 5), OUTSIDE);
        due("p = 1000001", x.slope(0, 5, 1000001, 5), OUTSIDE);
        due("q = 0", x.slope(0, 5, 5, 0), OUTSIDE);
        due("q = 1000001", x.slope(0, 5, 5, 1000001), OUTSIDE);
    }

    private static void ticksOfSlopes() {
        says("TICK k behind its own (k from 0 to n - 1) lasts p and (q - p) k / n, rounded downward, together");
        int[][] slopes = {{1, 5, 9}, {1, 9, 5}, {2, 4, 5}, {2, 5, 4}, {3, 1, 2}, {3, 2, 1}, {7, 3, 3}, {7, 10, 4},
            {7, 4, 10}, {2000, 1, 1000000}, {2000, 1000000, 1}, {1999, 1, 1000000}, {1999, 1000000, 1},
            {2000, 1000000, 999999}, {2000, 999999, 1000000}, {2000, 1, 2}, {2000, 2, 1}, {1024, 1, 1025}, {1597, 988, 1}};
        for (int[] s : slopes) {
            everyTickOfSlope(0, s[0], s[1], s[2]);
            everyTickOfSlope(313, s[0], s[1], s[2]);
            everyTickOfSlope(1000000 - s[0], s[0], s[1], s[2]);
        }
    }

    /** Now and then on a new object, as one is used for 512 calls at most. */
    private static void everyTickOfSlope(int tick, int n, int p, int q) {
        String name = "slope(" + tick + ", " + n + ", " + p + ", " + q + "), k ";
        TempoMaps x = null;
        long begin = 1000L * tick;
        for (int k = 0; k < n + 2 && tick + k <= 1000000; k++) {
            if (k % 200 == 0) {
                x = new TempoMaps();
                x.slope(tick, n, p, q);
            }
            due(name + k + " begins", x.time(tick + k), begin);
            if (tick + k < 1000000) {
                long want = k < n ? p + floor((long) (q - p) * k, n) : q;
                due(name + k + " lasts", x.lasts(tick + k), want);
                begin += want;
            }
        }
    }

    private static void behindSlopes() {
        says("each TICK behind these q");
        TempoMaps x = new TempoMaps();
        x.slope(10, 4, 100, 200);
        due("k = 3", x.lasts(13), 175);
        due("k = 4", x.lasts(14), 200);
        due("k = 5", x.lasts(15), 200);
        due("the last TICK", x.lasts(999999), 200);
        due("all of them", x.time(1000000), 10000 + 550 + 200L * 999986);
        TempoMaps y = new TempoMaps();
        y.slope(10, 1, 100, 200);
        due("n = 1, k = 0", y.lasts(10), 100);
        due("n = 1, k = 1", y.lasts(11), 200);
    }

    private static void endsOfSlopes() {
        says("Its n TICKS end at 1000000 at most");
        for (int n = 1; n <= 2000; n++) {
            due("n = " + n + " up to the end", new TempoMaps().slope(1000000 - n, n, 3, 4), 1);
            due("n = " + n + " beyond it", new TempoMaps().slope(1000001 - n, n, 3, 4), OUTSIDE);
        }
        due("from the last TICK on", new TempoMaps().slope(999999, 2000, 3, 4), OUTSIDE);
        TempoMaps x = new TempoMaps();
        x.slope(998000, 2000, 1, 2001);
        due("the last TICK of all", x.lasts(999999), 2000);
        due("time(1000000)", x.time(1000000), 998000000L + 2001000);
    }

    private static void marksOnSlopes() {
        says("and there is no other MARK on them");
        for (int n : new int[] {1, 2, 3, 1999, 2000}) {
            for (int at : new int[] {0, 5000, 996000}) {
                marksOnSlope("slope(" + at + ", " + n + "): ", at, n);
                marksInPlaceOfSlope("slope(" + at + ", " + n + "): ", at, n);
                marksBehindSlope("slope(" + at + ", " + n + "): ", at, n);
                marksAheadOfSlope("slope(" + at + ", " + n + "): ", at, n);
            }
        }
    }

    private static void marksOnSlope(String name, int at, int n) {
        for (int k : new int[] {1, n / 2, n - 1}) {
            if (k < 1 || k >= n) {
                continue;
            }
            int tick = at + k;
            due(name + "a STEP on k " + k, withSlope(at, n).step(tick, 5), STATE);
            due(name + "a short SLOPE on k " + k, withSlope(at, n).slope(tick, 1, 5, 6), STATE);
            due(name + "a long SLOPE on k " + k, withSlope(at, n).slope(tick, 2000, 5, 6), STATE);
            due(name + "a quotient on k " + k, withSlope(at, n).modulate(tick, 1, 1), STATE);
            TempoMaps x = new TempoMaps();
            x.step(tick, 5);
            due(name + "it over a STEP on k " + k, x.slope(at, n, 50, 60), STATE);
            TempoMaps y = new TempoMaps();
            y.slope(tick, 2000, 5, 6);
            due(name + "it over a SLOPE on k " + k, y.slope(at, n, 50, 60), STATE);
        }
    }

    private static void marksInPlaceOfSlope(String name, int at, int n) {
        due(name + "a STEP in place", withSlope(at, n).step(at, 5), 1);
        due(name + "the longest SLOPE in place", withSlope(at, n).slope(at, 2000, 5, 6), 1);
        due(name + "the shortest SLOPE in place", withSlope(at, n).slope(at, 1, 5, 6), 1);
        due(name + "a quotient in place", withSlope(at, n).modulate(at, 1, 1), at == 0 ? OUTSIDE : 1000);
    }

    private static void marksBehindSlope(String name, int at, int n) {
        due(name + "a STEP behind", withSlope(at, n).step(at + n, 5), 2);
        due(name + "a SLOPE behind", withSlope(at, n).slope(at + n, 2000, 5, 6), 2);
        due(name + "a quotient behind", withSlope(at, n).modulate(at + n, 10, 1), 10 * (50 + floor(10L * (n - 1), n)));
        TempoMaps x = new TempoMaps();
        x.step(at + n, 5);
        due(name + "it up to a STEP", x.slope(at, n, 50, 60), 2);
        if (n < 2000) {
            due(name + "it a TICK longer", x.slope(at, n + 1, 50, 60), STATE);
        }
    }

    private static void marksAheadOfSlope(String name, int at, int n) {
        if (at == 0) {
            return;
        }
        due(name + "a STEP ahead", withSlope(at, n).step(at - 1, 5), 2);
        due(name + "a quotient ahead", withSlope(at, n).modulate(at - 1, 1, 2), 500);
        due(name + "the longest SLOPE ahead", withSlope(at, n).slope(at - 2000, 2000, 5, 6), 2);
        due(name + "the longest SLOPE that reaches it", withSlope(at, n).slope(at - 1999, 2000, 5, 6), STATE);
        due(name + "the shortest SLOPE ahead", withSlope(at, n).slope(at - 1, 1, 5, 6), 2);
        due(name + "the shortest SLOPE that reaches it", withSlope(at, n).slope(at - 1, 2, 5, 6), STATE);
    }

    private static void upToTheNextMark() {
        says("Up to the next MARK it is so");
        TempoMaps x = new TempoMaps();
        x.step(10, 3);
        x.step(11, 4);
        x.slope(12, 2, 100, 300);
        x.slope(14, 1, 7, 9);
        x.step(16, 5);
        int[] want = {1000, 3, 4, 100, 200, 7, 9, 5, 5};
        long begin = 9000;
        for (int i = 0; i < want.length; i++) {
            due("lasts(" + (9 + i) + ")", x.lasts(9 + i), want[i]);
            due("time(" + (9 + i) + ")", x.time(9 + i), begin);
            begin += want[i];
        }
    }

    private static void aheadOfTheFirstMark() {
        says("ahead of the first one each TICK lasts 1000 UNITS");
        TempoMaps x = new TempoMaps();
        due("without a MARK, the first TICK", x.lasts(0), 1000);
        due("without a MARK, the last TICK", x.lasts(999999), 1000);
        x.step(999999, 5);
        due("the first MARK at the last TICK", x.lasts(999998), 1000);
        due("all of them", x.time(1000000), 999999005L);
        x.step(1, 6);
        due("the first MARK at TICK 1", x.lasts(0), 1000);
        due("time(1)", x.time(1), 1000);
        x.slope(0, 1, 7, 8);
        due("the first MARK at TICK 0", x.lasts(0), 7);
        due("time(1) then", x.time(1), 7);
    }

    private static void mostHolds() {
        says("HOLDS, 20 at most");
        due("the 20th", withHolds(19).hold(5, 1), 20);
        due("the 21st", withHolds(20).hold(5, 1), ROOM);
        due("among all, the 21st", withHolds(20).hold(205, 1), ROOM);
        due("behind all, the 21st", withHolds(20).hold(1000000, 1), ROOM);
        due("all 20 pass", withHolds(20).time(290), 290000 + 210);
    }

    private static void noHolds() {
        says("HOLDS, 20 at most (and none)");
        due("none", new TempoMaps().count(1), 0);
        TempoMaps x = withHolds(20);
        for (int i = 0; i < 20; i++) {
            due("the most, and then one less", x.hold(100 + 10 * i, 0), 19 - i);
        }
        due("none again", x.time(1000000), 1000000000L);
        due("one behind none", x.hold(5, 5), 1);
    }

    private static void ticksOfHolds() {
        says("HOLDS .. at TICKS (0 to 1000000)");
        TempoMaps x = new TempoMaps();
        due("hold(0, 3)", x.hold(0, 3), 1);
        due("hold(1000000, 4)", x.hold(1000000, 4), 2);
        due("hold(-1, 3)", x.hold(-1, 3), OUTSIDE);
        due("hold(1000001, 3)", x.hold(1000001, 3), OUTSIDE);
        due("time(0)", x.time(0), 3);
        due("time(999999)", x.time(999999), 999999003L);
        due("time(1000000)", x.time(1000000), 1000000007L);
    }

    private static void oneHoldAtATick() {
        says("HOLDS .. at each one at most");
        TempoMaps x = new TempoMaps();
        due("hold(7, 3)", x.hold(7, 3), 1);
        due("hold(7, 4)", x.hold(7, 4), 1);
        due("the one is in place of the other", x.time(7), 7004);
    }

    private static void unitsOfHolds() {
        says("of 1 to 1000000000 UNITS");
        TempoMaps x = new TempoMaps();
        due("hold(7, 1)", x.hold(7, 1), 1);
        due("time(7) with 1", x.time(7), 7001);
        due("hold(7, 1000000000)", x.hold(7, 1000000000), 1);
        due("time(7) with the most", x.time(7), 1000007000L);
        due("hold(7, -1)", x.hold(7, -1), OUTSIDE);
        due("hold(7, 1000000001)", x.hold(7, 1000000001), OUTSIDE);
    }

    private static void aheadOfTheTick() {
        says("which pass ahead of that TICK");
        TempoMaps x = new TempoMaps();
        x.hold(7, 50);
        due("time(6)", x.time(6), 6000);
        due("time(7)", x.time(7), 7050);
        due("time(8)", x.time(8), 8050);
        due("it is no part of what the TICK ahead lasts", x.lasts(6), 1000);
        due("it is no part of what the TICK lasts", x.lasts(7), 1000);
    }

    private static void begins() {
        says("A TICK BEGINS when all TICKS ahead of it and all HOLDS up to it have passed");
        TempoMaps x = new TempoMaps();
        due("TICK 0", x.time(0), 0);
        x.hold(0, 11);
        due("TICK 0 behind a HOLD", x.time(0), 11);
        due("TICK 1 behind it", x.time(1), 1011);
        x.hold(1, 22);
        due("TICK 1 behind both", x.time(1), 1033);
        due("TICK 0 ahead of the second", x.time(0), 11);
        x.slope(0, 3, 10, 40);
        x.hold(2, 33);
        due("on a SLOPE, k = 1", x.time(1), 11 + 10 + 22);
        due("on a SLOPE, k = 2", x.time(2), 11 + 10 + 22 + 20 + 33);
        due("behind a SLOPE", x.time(3), 11 + 10 + 22 + 20 + 33 + 30);
    }

    private static void lastTickBegins() {
        says("(TICK 1000000, too, though it does not last)");
        TempoMaps x = new TempoMaps();
        x.step(0, 1000000);
        due("without a HOLD", x.time(1000000), 1000000000000L);
        for (int i = 0; i < 20; i++) {
            x.hold(i < 10 ? i : 1000010 - i, 1000000000);
        }
        due("the latest there is", x.time(1000000), 1020000000000L);
        due("the one ahead of it", x.time(999999), 1018999000000L);
        due("it has not begun", x.tick(1019999999999L), 999999);
        due("it has begun", x.tick(1020000000000L), 1000000);
        due("all is over then", x.held(1020000000000L), 1);
        due("it does not last", x.lasts(1000000), OUTSIDE);
        due("the most frames", x.frame(1000000, 192000), 195840000000L);
        due("the TICK of the most frames", x.tickOf(195840000000L, 192000), 1000000);
        due("the TICK of one more", x.tickOf(195840000001L, 192000), NONE);
        due("the TICK of as many as TICK 999999 has", x.tickOf(195647808000L, 192000), 999999);
        due("the TICK of one more than these", x.tickOf(195647808001L, 192000), 1000000);
    }

    private static void firstThatFitsOfMarks() {
        says("Calls answer, the first of these that fits: OUTSIDE (a number out of its bounds), STATE (as told), ROOM");
        TempoMaps x = withSteps(39);
        x.slope(0, 100, 500, 1);
        due("step: OUTSIDE, with STATE and ROOM", x.step(50, 0), OUTSIDE);
        due("step: OUTSIDE, with ROOM", x.step(-1, 5), OUTSIDE);
        due("step: STATE, with ROOM", x.step(99, 5), STATE);
        due("step: ROOM", x.step(105, 5), ROOM);
        due("slope: OUTSIDE, with STATE and ROOM", x.slope(50, 5, 5, 0), OUTSIDE);
        due("slope: OUTSIDE by its end, with ROOM", x.slope(999999, 2, 5, 5), OUTSIDE);
        due("slope: STATE, on another, with ROOM", x.slope(99, 1, 5, 5), STATE);
        due("slope: STATE, another on it, with ROOM", x.slope(105, 6, 5, 5), STATE);
        due("slope: ROOM", x.slope(105, 5, 5, 5), ROOM);
        due("modulate: OUTSIDE, with STATE and ROOM", x.modulate(50, 1001, 1), OUTSIDE);
        due("modulate: OUTSIDE, with ROOM", x.modulate(105, 1, 0), OUTSIDE);
        due("modulate: STATE, on a SLOPE, with ROOM", x.modulate(99, 1, 1), STATE);
        due("modulate: STATE, no PACE, with ROOM", x.modulate(105, 1, 1000), STATE);
        due("modulate: ROOM", x.modulate(105, 1, 1), ROOM);
    }

    private static void firstThatFitsOfOthers() {
        says("Calls answer, the first of these that fits (HOLDS and TAPS)");
        TempoMaps x = withHolds(20);
        due("hold: OUTSIDE by TICK, with ROOM", x.hold(1000001, 5), OUTSIDE);
        due("hold: OUTSIDE by UNITS, with ROOM", x.hold(5, 1000000001), OUTSIDE);
        due("hold: ROOM", x.hold(5, 5), ROOM);
        TempoMaps y = new TempoMaps();
        for (int i = 0; i < 40; i++) {
            y.tap(LATEST_TAP - 40 + i);
        }
        due("tap: OUTSIDE, with STATE and ROOM", y.tap(-1), OUTSIDE);
        due("tap: OUTSIDE, with ROOM", y.tap(LATEST_TAP + 1), OUTSIDE);
        due("tap: STATE, with ROOM", y.tap(LATEST_TAP - 1), STATE);
        due("tap: ROOM", y.tap(LATEST_TAP), ROOM);
        due("fit: OUTSIDE, with STATE", new TempoMaps().fit(2), OUTSIDE);
        due("pace: OUTSIDE, with STATE", new TempoMaps().pace(0), OUTSIDE);
        due("pace: OUTSIDE, with STATE, the other side", new TempoMaps().pace(100001), OUTSIDE);
    }
}
