import java.math.BigInteger;

/** Promises 9 to 18: each sentence that names a boundary case has a test of its own. */
public final class TimeEdgesTest {
    private static final int NONE = -1;
    private static final int OUTSIDE = -2;
    private static final int STATE = -3;
    private static final int ROOM = -4;
    private static final int LOW = Integer.MIN_VALUE;
    private static final int TOP = Integer.MAX_VALUE;
    private static final long LEAST = Long.MIN_VALUE;
    private static final long GREATEST = Long.MAX_VALUE;
    private static final long LATEST_TAP = 1000000000000L;

    private static String sentence = "";
    private static int sentences = 0;
    private static int wrong = 0;

    private static void says(String words) {
        sentence = words;
        sentences++;
    }

    private static void due(String call, long got, long want) {
        if (got != want) {
            wrong++;
            System.out.println("\"" + sentence + "\": " + call + " answered " + got + ", due is " + want);
        }
    }

    public static void main(String[] args) {
        lasts();
        lastsOutside();
        time();
        timeOutside();
        tick();
        tickOfNone();
        tickOutside();
        heldBetweenTicks();
        heldAheadOfAll();
        heldBehindAll();
        heldOutside();
        frame();
        frameOutside();
        tickOf();
        tickOfBehindHolds();
        tickOfTooManyFrames();
        tickOfOutside();
        tap();
        mostTaps();
        tapNotBehind();
        noTaps();
        noTapsOfOld();
        fit();
        fitInLeastTerms();
        fitOutside();
        fitOfFewer();
        pace();
        paceBetween();
        paceOutside();
        paceOfFewer();
        System.out.println(wrong == 0 ? "all " + sentences + " sentences hold" : wrong + " answers are not as due");
        if (wrong != 0) {
            System.exit(1);
        }
    }

    /** Each TICK lasts so many UNITS. */
    private static TempoMaps withPace(int units) {
        TempoMaps x = new TempoMaps();
        x.step(0, units);
        return x;
    }

    private static TempoMaps withTaps(long... times) {
        TempoMaps x = new TempoMaps();
        for (long time : times) {
            x.tap(time);
        }
        return x;
    }

    private static long[] row(int many, long first, long apart) {
        long[] times = new long[many];
        for (int i = 0; i < many; i++) {
            times[i] = first + apart * i;
        }
        return times;
    }

    private static void lasts() {
        says("9: How many UNITS a TICK (0 to 999999) lasts");
        TempoMaps x = new TempoMaps();
        x.slope(0, 1, 1, 1000000);
        x.slope(999999, 1, 7, 8);
        due("lasts(0)", x.lasts(0), 1);
        due("lasts(1)", x.lasts(1), 1000000);
        due("lasts(999998)", x.lasts(999998), 1000000);
        due("lasts(999999)", x.lasts(999999), 7);
    }

    private static void lastsOutside() {
        says("9: OUTSIDE");
        for (int tick : new int[] {LOW, -1, 1000000, 1000001, TOP}) {
            due("lasts(" + tick + ")", new TempoMaps().lasts(tick), OUTSIDE);
            due("lasts(" + tick + ") with a MARK", withPace(5).lasts(tick), OUTSIDE);
        }
    }

    private static long unitsOfSlope(int n, int p, int q) {
        long units = 0;
        for (int k = 0; k < n; k++) {
            units += p + Math.floorDiv((long) (q - p) * k, (long) n);
        }
        return units;
    }

    private static void time() {
        says("10: The TIME at which a TICK BEGINS");
        TempoMaps x = new TempoMaps();
        for (int i = 0; i < 40; i++) {
            x.slope(i == 39 ? 998000 : 2000 * i, 2000, i % 2 == 0 ? 1 : 1000000, i % 2 == 0 ? 1000000 : 1);
        }
        long rising = unitsOfSlope(2000, 1, 1000000);
        long falling = unitsOfSlope(2000, 1000000, 1);
        due("TICK 0", x.time(0), 0);
        due("the second of 40 SLOPES", x.time(2000), rising);
        due("the third", x.time(4000), rising + falling);
        due("the last", x.time(998000), 20 * rising + 19 * falling + 920000 * 1000000L);
        due("TICK 1000000", x.time(1000000), 20 * rising + 20 * falling + 920000 * 1000000L);
        due("the earliest that it can be", withPace(1).time(1000000), 1000000);
        due("the latest without HOLDS", withPace(1000000).time(1000000), 1000000000000L);
    }

    private static void timeOutside() {
        says("10: OUTSIDE");
        for (int tick : new int[] {LOW, -1, 1000001, TOP}) {
            due("time(" + tick + ")", new TempoMaps().time(tick), OUTSIDE);
            due("time(" + tick + ") with a MARK", withPace(5).time(tick), OUTSIDE);
        }
    }

    private static void tick() {
        says("11: The last TICK that has begun at a TIME");
        TempoMaps x = withPace(1);
        due("at 0", x.tick(0), 0);
        due("at 1", x.tick(1), 1);
        due("at 999999", x.tick(999999), 999999);
        due("at 1000000", x.tick(1000000), 1000000);
        due("at 1000001", x.tick(1000001), 1000000);
        due("at the greatest", x.tick(GREATEST), 1000000);
        due("at the greatest but one", x.tick(GREATEST - 1), 1000000);
        x.hold(500, 70);
        due("a HOLD begins to pass", x.tick(500), 499);
        due("a HOLD still passes", x.tick(569), 499);
        due("a HOLD has passed", x.tick(570), 500);
        x.hold(1000000, 30);
        due("the last HOLD passes", x.tick(1000099), 999999);
        due("the last HOLD has passed", x.tick(1000100), 1000000);
        TempoMaps y = withPace(1000000);
        due("a TICK's last UNIT", y.tick(999999), 0);
        due("the next one's first", y.tick(1000000), 1);
        due("the last one's last UNIT", y.tick(999999999999L), 999999);
        due("all is over", y.tick(1000000000000L), 1000000);
    }

    private static void tickOfNone() {
        says("11: NONE: none has");
        TempoMaps x = new TempoMaps();
        due("without a HOLD at TICK 0", x.tick(0), 0);
        x.hold(1, 5);
        due("with a HOLD at TICK 1", x.tick(0), 0);
        x.hold(0, 1);
        due("ahead of the shortest HOLD's end", x.tick(0), NONE);
        due("behind it", x.tick(1), 0);
        x.hold(0, 1000000000);
        due("at 0", x.tick(0), NONE);
        due("ahead of the longest HOLD's end", x.tick(999999999), NONE);
        due("behind it", x.tick(1000000000), 0);
    }

    private static void tickOutside() {
        says("11: OUTSIDE: below 0");
        TempoMaps x = new TempoMaps();
        due("tick(-1)", x.tick(-1), OUTSIDE);
        due("tick(least)", x.tick(LEAST), OUTSIDE);
        x.hold(0, 5);
        due("tick(-1) where none has begun at 0", x.tick(-1), OUTSIDE);
        due("tick(least) where none has begun at 0", x.tick(LEAST), OUTSIDE);
    }

    private static void heldBetweenTicks() {
        says("12: Whether at a TIME the last TICK that has begun lasts no more");
        TempoMaps x = withPace(10);
        x.hold(2, 5);
        due("without a HOLD, its last UNIT", x.held(9), 0);
        due("without a HOLD, the next TICK's first", x.held(10), 0);
        due("ahead of a HOLD, its last UNIT", x.held(19), 0);
        due("the HOLD's first UNIT", x.held(20), 1);
        due("the HOLD's last UNIT", x.held(24), 1);
        due("behind the HOLD", x.held(25), 0);
        x.hold(2, 1);
        due("a HOLD of one UNIT", x.held(20), 1);
        due("behind it", x.held(21), 0);
        x.slope(0, 2, 4, 2);
        due("a SLOPE's last TICK lasts", x.held(6), 0);
        due("a SLOPE's last TICK lasts no more", x.held(7), 1);
    }

    private static void heldAheadOfAll() {
        says("12: or none has begun (a HOLD passes)");
        TempoMaps x = new TempoMaps();
        due("TICK 0 has begun", x.held(0), 0);
        x.hold(0, 1);
        due("the shortest HOLD, at 0", x.held(0), 1);
        due("the shortest HOLD, at 1", x.held(1), 0);
        x.hold(0, 1000000000);
        due("the longest HOLD, at 0", x.held(0), 1);
        due("the longest HOLD, at its last UNIT", x.held(999999999), 1);
        due("behind the longest HOLD", x.held(1000000000), 0);
    }

    private static void heldBehindAll() {
        says("12: or all is over: 1, 0");
        TempoMaps x = new TempoMaps();
        due("ahead of the end", x.held(999999999), 0);
        due("at the end", x.held(1000000000), 1);
        due("behind the end", x.held(1000000001), 1);
        due("at the greatest", x.held(GREATEST), 1);
        due("at the greatest but one", x.held(GREATEST - 1), 1);
        x.hold(1000000, 2);
        due("TICK 999999's last UNIT", x.held(999999999), 0);
        due("the last HOLD", x.held(1000000000), 1);
        due("the last HOLD's last UNIT", x.held(1000000001), 1);
        due("over then", x.held(1000000002), 1);
    }

    private static void heldOutside() {
        says("12: OUTSIDE: below 0");
        TempoMaps x = new TempoMaps();
        due("held(-1)", x.held(-1), OUTSIDE);
        due("held(least)", x.held(LEAST), OUTSIDE);
        x.hold(0, 5);
        due("held(-1) where none has begun at 0", x.held(-1), OUTSIDE);
        due("held(least) where none has begun at 0", x.held(LEAST), OUTSIDE);
    }

    private static void frame() {
        says("13: How many whole frames, rate (1 to 192000) of them a second, have passed when a TICK BEGINS");
        TempoMaps x = withPace(1);
        due("frame(0, 192000)", x.frame(0, 192000), 0);
        due("a UNIT ahead of the first frame", x.frame(5, 192000), 0);
        due("the first frame has passed", x.frame(6, 192000), 1);
        due("a UNIT ahead of a second", x.frame(999999, 192000), 191999);
        due("a second", x.frame(1000000, 192000), 192000);
        due("a UNIT ahead of a second, by 1", x.frame(999999, 1), 0);
        due("a second, by 1", x.frame(1000000, 1), 1);
        due("a UNIT ahead of half a second", x.frame(499999, 2), 0);
        due("half a second", x.frame(500000, 2), 1);
        due("a third, not yet", x.frame(333333, 3), 0);
        due("a third", x.frame(333334, 3), 1);
        x.hold(0, 1000000000);
        due("a HOLD ahead of TICK 0", x.frame(0, 1), 1000);
        x.step(0, 1000000);
        due("a long way", x.frame(1000000, 192000), 192192000000L);
    }

    private static void frameOutside() {
        says("13: OUTSIDE");
        for (int rate : new int[] {LOW, -1, 0, 192001, TOP}) {
            due("frame(5, " + rate + ")", new TempoMaps().frame(5, rate), OUTSIDE);
            due("frame(1000001, " + rate + ")", new TempoMaps().frame(1000001, rate), OUTSIDE);
        }
        for (int tick : new int[] {LOW, -1, 1000001, TOP}) {
            due("frame(" + tick + ", 1)", new TempoMaps().frame(tick, 1), OUTSIDE);
            due("frame(" + tick + ", 192000)", new TempoMaps().frame(tick, 192000), OUTSIDE);
        }
    }

    private static void tickOf() {
        says("14: The first TICK that BEGINS when at least so many whole frames have passed");
        TempoMaps x = withPace(1);
        due("tickOf(0, 1)", x.tickOf(0, 1), 0);
        due("tickOf(0, 192000)", x.tickOf(0, 192000), 0);
        due("tickOf(1, 192000)", x.tickOf(1, 192000), 6);
        due("tickOf(2, 192000)", x.tickOf(2, 192000), 11);
        due("tickOf(24, 192000), to the UNIT", x.tickOf(24, 192000), 125);
        due("tickOf(25, 192000)", x.tickOf(25, 192000), 131);
        due("tickOf(191999, 192000)", x.tickOf(191999, 192000), 999995);
        due("tickOf(192000, 192000)", x.tickOf(192000, 192000), 1000000);
        due("tickOf(1, 1)", x.tickOf(1, 1), 1000000);
        due("tickOf(1, 3)", x.tickOf(1, 3), 333334);
        due("tickOf(1, 2)", x.tickOf(1, 2), 500000);
        due("many frames a TICK, as many", withPace(1000000).tickOf(192000, 192000), 1);
        due("many frames a TICK, one more", withPace(1000000).tickOf(192001, 192000), 2);
    }

    private static void tickOfBehindHolds() {
        says("14: The first TICK that BEGINS when at least so many whole frames have passed (behind HOLDS)");
        TempoMaps x = new TempoMaps();
        x.hold(0, 2000000);
        x.hold(10, 3000000);
        due("no frames", x.tickOf(0, 1), 0);
        due("fewer than pass ahead of TICK 0", x.tickOf(1, 1), 0);
        due("as many", x.tickOf(2, 1), 0);
        due("one more: the TICK behind the next HOLD", x.tickOf(3, 1), 10);
        due("as many as pass with that HOLD", x.tickOf(5, 1), 10);
        due("one more", x.tickOf(6, 1), 1000);
    }

    private static void tickOfTooManyFrames() {
        says("14: NONE: there is none");
        TempoMaps x = withPace(1);
        due("tickOf(2, 1)", x.tickOf(2, 1), NONE);
        due("tickOf(192001, 192000)", x.tickOf(192001, 192000), NONE);
        // By a million, some of these would be small again in a long that wraps around.
        long[] many = {GREATEST, GREATEST - 1, GREATEST / 1000000, GREATEST / 1000000 + 1, 18446744073709L,
            18446744073710L, 36893488147420L, 1L << 44, 1L << 58, 1L << 62};
        for (int rate : new int[] {1, 2, 192000}) {
            for (long frames : many) {
                due("tickOf(" + frames + ", " + rate + ")", x.tickOf(frames, rate), NONE);
            }
        }
        x.hold(1000000, 999999);
        due("a UNIT ahead of the second frame", x.tickOf(2, 1), NONE);
        x.hold(1000000, 1000000);
        due("the second frame has passed", x.tickOf(2, 1), 1000000);
        due("the third has not", x.tickOf(3, 1), NONE);
    }

    private static void tickOfOutside() {
        says("14: OUTSIDE: frames below 0; rate");
        TempoMaps x = new TempoMaps();
        due("tickOf(-1, 1)", x.tickOf(-1, 1), OUTSIDE);
        due("tickOf(-1, 192000)", x.tickOf(-1, 192000), OUTSIDE);
        due("tickOf(least, 1)", x.tickOf(LEAST, 1), OUTSIDE);
        due("tickOf(least, 192000)", x.tickOf(LEAST, 192000), OUTSIDE);
        for (int rate : new int[] {LOW, -1, 0, 192001, TOP}) {
            due("tickOf(0, " + rate + ")", x.tickOf(0, rate), OUTSIDE);
            due("tickOf(greatest, " + rate + ")", x.tickOf(GREATEST, rate), OUTSIDE);
            due("tickOf(-1, " + rate + ")", x.tickOf(-1, rate), OUTSIDE);
        }
    }

    private static void tap() {
        says("15: A TAP at a TIME (0 to 1000000000000)");
        due("tap(0)", new TempoMaps().tap(0), 1);
        due("tap(1000000000000)", new TempoMaps().tap(LATEST_TAP), 1);
        due("tap(-1)", new TempoMaps().tap(-1), OUTSIDE);
        due("tap(1000000000001)", new TempoMaps().tap(LATEST_TAP + 1), OUTSIDE);
        due("tap(least)", new TempoMaps().tap(LEAST), OUTSIDE);
        due("tap(greatest)", new TempoMaps().tap(GREATEST), OUTSIDE);
    }

    private static void mostTaps() {
        says("15: how many TAPS there are (40 at most) .. ROOM");
        TempoMaps x = new TempoMaps();
        for (int i = 1; i <= 40; i++) {
            due("TAP " + i, x.tap(i), i);
        }
        due("the 41st", x.tap(41), ROOM);
        due("the 41st, late", x.tap(LATEST_TAP), ROOM);
        due("how many", x.count(2), 40);
        due("the line through the most", x.fit(0), 1);
        due("they go", x.noTaps(), 40);
        due("there is room", x.tap(41), 1);
    }

    private static void tapNotBehind() {
        says("15: STATE: it is not behind the latest one");
        due("the first", withTaps().tap(0), 1);
        due("at the latest", withTaps(0).tap(0), STATE);
        due("a UNIT behind it", withTaps(0).tap(1), 2);
        due("a UNIT ahead of it", withTaps(5).tap(4), STATE);
        due("at one that is not the latest", withTaps(5, 9).tap(5), STATE);
        due("between two", withTaps(5, 9).tap(7), STATE);
        due("ahead of all", withTaps(5, 9).tap(0), STATE);
        due("at the last there can be", withTaps(LATEST_TAP).tap(LATEST_TAP), STATE);
        due("the last, a UNIT behind the latest", withTaps(LATEST_TAP - 1).tap(LATEST_TAP), 2);
        due("with the most there", withTaps(row(40, 0, 1)).tap(39), STATE);
    }

    private static void noTaps() {
        says("16: No TAPS are there: how many there were");
        TempoMaps x = new TempoMaps();
        due("none", x.noTaps(), 0);
        x.tap(9);
        due("one", x.noTaps(), 1);
        due("it is gone", x.count(2), 0);
        due("the most", withTaps(row(40, 0, 1)).noTaps(), 40);
        due("again", x.noTaps(), 0);
        x.tap(1);
        x.hold(5, 5);
        x.step(5, 5);
        x.noTaps();
        due("HOLDS stay", x.count(1), 1);
        due("MARKS stay", x.count(0), 1);
    }

    private static void noTapsOfOld() {
        says("16: No TAPS are there (none of the old ones is left over)");
        TempoMaps x = withTaps(row(40, LATEST_TAP - 39, 1));
        x.noTaps();
        due("there is no latest one", x.tap(0), 1);
        due("one TAP makes no line", x.fit(0), STATE);
        due("one TAP makes no pace", x.pace(1), STATE);
        due("the second", x.tap(3), 2);
        due("above", x.fit(0), 3);
        due("below", x.fit(1), 1);
    }

    private static void fit() {
        says("17: The line that fits the TAPS best .. so that the squares of what each is off are the least together");
        lineOf("two TAPS", 0, LATEST_TAP);
        lineOf("two TAPS as near as can be", LATEST_TAP - 1, LATEST_TAP);
        lineOf("three TAPS", 0, 1, 3);
        lineOf("four TAPS", 0, 1, 2, LATEST_TAP);
        lineOf("the most TAPS, in a row", row(40, 0, 1));
        lineOf("the most TAPS, as late as can be", row(40, LATEST_TAP - 39, 1));
        lineOf("the most TAPS, as far apart as can be", row(40, 0, 25641025641L));
        long[] steep = row(40, 0, 1);
        for (int i = 20; i < 40; i++) {
            steep[i] = LATEST_TAP - 39 + i;
        }
        lineOf("the most TAPS, as steep as can be", steep);
        for (int many = 2; many <= 40; many++) {
            long[] times = row(many, 17, 1000003);
            times[many - 1] += 999 * many;
            lineOf(many + " TAPS", times);
        }
    }

    /** By sums over all pairs of TAPS, another way to the same b: (i - j) (ti - tj) above, (i - j) (i - j) below. */
    private static void lineOf(String name, long... times) {
        BigInteger above = BigInteger.ZERO;
        BigInteger below = BigInteger.ZERO;
        for (int i = 0; i < times.length; i++) {
            for (int j = 0; j < i; j++) {
                above = above.add(BigInteger.valueOf(times[i] - times[j]).multiply(BigInteger.valueOf(i - j)));
                below = below.add(BigInteger.valueOf((long) (i - j) * (i - j)));
            }
        }
        BigInteger common = above.gcd(below);
        TempoMaps x = withTaps(times);
        due(name + ", how many", x.count(2), times.length);
        due(name + ", above", x.fit(0), above.divide(common).longValueExact());
        due(name + ", below", x.fit(1), below.divide(common).longValueExact());
        for (int g : new int[] {1, 2, 3, 480, 99999, 100000}) {
            BigInteger whole = below.multiply(BigInteger.valueOf(g));
            BigInteger[] parts = above.divideAndRemainder(whole);
            boolean isNearerToMore = parts[1].shiftLeft(1).compareTo(whole) > 0;
            due(name + ", pace(" + g + ")", x.pace(g), parts[0].longValueExact() + (isNearerToMore ? 1 : 0));
        }
    }

    private static void fitInLeastTerms() {
        says("17: b as a fraction in least terms: what is above (side 0), below (1)");
        due("a whole b, above", withTaps(3, 9, 15).fit(0), 6);
        due("a whole b, below", withTaps(3, 9, 15).fit(1), 1);
        due("three halves, above", withTaps(0, 1, 3).fit(0), 3);
        due("three halves, below", withTaps(0, 1, 3).fit(1), 2);
        due("1, above", withTaps(0, 1, 2, 3).fit(0), 1);
        due("1, below", withTaps(0, 1, 2, 3).fit(1), 1);
        due("two TAPS, above", withTaps(4, 10).fit(0), 6);
        due("two TAPS, below", withTaps(4, 10).fit(1), 1);
    }

    private static void fitOutside() {
        says("17: OUTSIDE: the side");
        for (int side : new int[] {LOW, -1, 2, TOP}) {
            due("fit(" + side + ")", withTaps(1, 2).fit(side), OUTSIDE);
            due("fit(" + side + ") of none", withTaps().fit(side), OUTSIDE);
            due("fit(" + side + ") of one", withTaps(1).fit(side), OUTSIDE);
        }
    }

    private static void fitOfFewer() {
        says("17: STATE: fewer than two");
        for (int side = 0; side < 2; side++) {
            due("of none", withTaps().fit(side), STATE);
            due("of one", withTaps(5).fit(side), STATE);
            due("of one at 0", withTaps(0).fit(side), STATE);
            due("of two", withTaps(0, 1).fit(side), 1);
        }
    }

    private static void pace() {
        says("18: The whole number of UNITS nearest to b / g, g being how many TICKS (1 to 100000) are from TAP to TAP");
        due("pace(1)", withTaps(0, LATEST_TAP).pace(1), LATEST_TAP);
        due("pace(100000)", withTaps(0, LATEST_TAP).pace(100000), 10000000);
        due("pace(99999)", withTaps(0, LATEST_TAP).pace(99999), 10000100);
        due("a UNIT", withTaps(LATEST_TAP - 1, LATEST_TAP).pace(1), 1);
        due("next to nothing", withTaps(0, 1).pace(100000), 0);
        due("less than a half", withTaps(0, 49999).pace(100000), 0);
        due("more than a half", withTaps(0, 50001).pace(100000), 1);
        due("less than one and a half", withTaps(0, 149999).pace(100000), 1);
        due("more than one and a half", withTaps(0, 150001).pace(100000), 2);
    }

    private static void paceBetween() {
        says("18: of two as near the lesser");
        due("a half", withTaps(0, 50000).pace(100000), 0);
        due("one and a half", withTaps(0, 150000).pace(100000), 1);
        due("two and a half", withTaps(0, 250000).pace(100000), 2);
        due("a half by 2", withTaps(0, 1).pace(2), 0);
        due("three halves by 1", withTaps(0, 1, 3).pace(1), 1);
        due("far up", withTaps(0, LATEST_TAP - 1).pace(2), 499999999999L);
    }

    private static void paceOutside() {
        says("18: OUTSIDE");
        for (int g : new int[] {LOW, -1, 0, 100001, TOP}) {
            due("pace(" + g + ")", withTaps(0, 9).pace(g), OUTSIDE);
            due("pace(" + g + ") of none", withTaps().pace(g), OUTSIDE);
            due("pace(" + g + ") of one", withTaps(9).pace(g), OUTSIDE);
        }
    }

    private static void paceOfFewer() {
        says("18: STATE: fewer than two TAPS");
        for (int g : new int[] {1, 2, 100000}) {
            due("of none", withTaps().pace(g), STATE);
            due("of one", withTaps(5).pace(g), STATE);
            due("of one at 0", withTaps(0).pace(g), STATE);
            due("of two", withTaps(5, 5 + g).pace(g), 1);
        }
    }
}
