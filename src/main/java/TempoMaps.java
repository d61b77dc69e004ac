/**
 * From ticks of music to time and back, all of it in whole numbers. The words in capitals
 * (TICK, UNITS, MARK, STEP, SLOPE, HOLD, TAP) are the document's.
 *
 * All rows are made in the constructor; no call makes an object.
 */
public final class TempoMaps {
    public static final int NONE = -1, OUTSIDE = -2, STATE = -3, ROOM = -4;

    private static final int LAST_TICK = 1000000;
    private static final int LAST_MARK_TICK = 999999;
    private static final int FIRST_PACE = 1000;
    private static final int MOST_PACE = 1000000;
    private static final int LONGEST_SLOPE = 2000;
    private static final int MOST_OF_QUOTIENT = 1000;
    private static final int LONGEST_HOLD = 1000000000;
    private static final int UNITS_A_SECOND = 1000000;
    private static final int MOST_RATE = 192000;
    private static final long LATEST_TAP = 1000000000000L;
    private static final int MOST_TICKS_A_TAP = 100000;
    private static final int MOST_MARKS = 40;
    private static final int MOST_HOLDS = 20;
    private static final int MOST_TAPS = 40;

    /** Far above what halving a million TICKS, or Euclid's way on two longs, can need. */
    private static final int MOST_ROUNDS = 200;

    private final Marks marks;
    private final Holds holds;
    private final Taps taps;

    public TempoMaps() {
        marks = new Marks();
        holds = new Holds();
        taps = new Taps();
    }

    public int step(int tick, int p) {
        if (!isWithin(tick, 0, LAST_MARK_TICK) || !isWithin(p, 1, MOST_PACE)) {
            return OUTSIDE;
        }
        if (marks.isInsideSlope(tick)) {
            return STATE;
        }
        return marks.putStep(tick, p);
    }

    public int slope(int tick, int n, int p, int q) {
        if (!isWithin(tick, 0, LAST_MARK_TICK) || !isWithin(n, 1, LONGEST_SLOPE)
                || !isWithin(p, 1, MOST_PACE) || !isWithin(q, 1, MOST_PACE)
                || tick + n > LAST_TICK) {
            return OUTSIDE;
        }
        if (marks.isInsideSlope(tick) || marks.isAnyBetween(tick, tick + n)) {
            return STATE;
        }
        return marks.put(tick, n, p, q);
    }

    public int modulate(int tick, int u, int v) {
        if (!isWithin(tick, 1, LAST_MARK_TICK) || !isWithin(u, 1, MOST_OF_QUOTIENT)
                || !isWithin(v, 1, MOST_OF_QUOTIENT)) {
            return OUTSIDE;
        }
        // A million by a thousand at most: an int holds it.
        int pace = marks.unitsOfTick(tick - 1) * u / v;
        if (marks.isInsideSlope(tick) || !isWithin(pace, 1, MOST_PACE)) {
            return STATE;
        }
        return marks.putStep(tick, pace) == ROOM ? ROOM : pace;
    }

    /** The document names no OUTSIDE here: at a number that is no TICK there is no MARK either. */
    public int drop(int tick) {
        return marks.remove(tick);
    }

    public int hold(int tick, int units) {
        if (!isWithin(tick, 0, LAST_TICK) || !isWithin(units, 0, LONGEST_HOLD)) {
            return OUTSIDE;
        }
        return units == 0 ? holds.remove(tick) : holds.put(tick, units);
    }

    public int mark(int i, int what) {
        if (!isWithin(what, 0, 4)) {
            return OUTSIDE;
        }
        return marks.tell(i, what);
    }

    public int count(int what) {
        switch (what) {
            case 0: return marks.size;
            case 1: return holds.size;
            case 2: return taps.size;
            default: return OUTSIDE;
        }
    }

    public int lasts(int tick) {
        if (!isWithin(tick, 0, LAST_TICK - 1)) {
            return OUTSIDE;
        }
        return marks.unitsOfTick(tick);
    }

    public long time(int tick) {
        if (!isWithin(tick, 0, LAST_TICK)) {
            return OUTSIDE;
        }
        return beginOf(tick);
    }

    public int tick(long time) {
        if (time < 0) {
            return OUTSIDE;
        }
        return lastBegun(time);
    }

    public int held(long time) {
        if (time < 0) {
            return OUTSIDE;
        }
        int last = lastBegun(time);
        if (last == NONE || last == LAST_TICK) {
            return 1;
        }
        return time - beginOf(last) >= marks.unitsOfTick(last) ? 1 : 0;
    }

    public long frame(int tick, int rate) {
        if (!isWithin(tick, 0, LAST_TICK) || !isWithin(rate, 1, MOST_RATE)) {
            return OUTSIDE;
        }
        return framesAt(tick, rate);
    }

    public int tickOf(long frames, int rate) {
        if (frames < 0 || !isWithin(rate, 1, MOST_RATE)) {
            return OUTSIDE;
        }
        // Ahead of the product below, which a long would not hold for all frames.
        if (frames > framesAt(LAST_TICK, rate)) {
            return NONE;
        }
        long needed = (frames * UNITS_A_SECOND + rate - 1) / rate;
        return firstBeginningFrom(needed);
    }

    public int tap(long time) {
        if (time < 0 || time > LATEST_TAP) {
            return OUTSIDE;
        }
        return taps.add(time);
    }

    public int noTaps() {
        return taps.removeAll();
    }

    public long fit(int side) {
        if (side != 0 && side != 1) {
            return OUTSIDE;
        }
        if (taps.size < 2) {
            return STATE;
        }
        long above = taps.above();
        long below = taps.below();
        long divisor = commonDivisor(above, below);
        return (side == 0 ? above : below) / divisor;
    }

    public long pace(int g) {
        if (!isWithin(g, 1, MOST_TICKS_A_TAP)) {
            return OUTSIDE;
        }
        long above = taps.above();
        long below = taps.below() * g;
        // It is 0 where there are fewer than two TAPS.
        if (below < 1) {
            return STATE;
        }
        long lesser = above / below;
        return 2 * (above % below) > below ? lesser + 1 : lesser;
    }

    private static boolean isWithin(int number, int least, int most) {
        return number >= least && number <= most;
    }

    private long beginOf(int tick) {
        return marks.unitsAhead(tick) + holds.unitsUpTo(tick);
    }

    /** Some 10^12 UNITS by 192000 at most: a long holds it. */
    private long framesAt(int tick, int rate) {
        return beginOf(tick) * rate / UNITS_A_SECOND;
    }

    private int lastBegun(long time) {
        // Ahead of the sum below, which would wrap for the greatest long.
        if (time >= beginOf(LAST_TICK)) {
            return LAST_TICK;
        }
        int next = firstBeginningFrom(time + 1);
        return next == 0 ? NONE : next - 1;
    }

    /** The first TICK that BEGINS at a TIME or later; LAST_TICK + 1: none does. */
    private int firstBeginningFrom(long time) {
        int low = 0;
        int high = LAST_TICK + 1;
        for (int round = 0; round < MOST_ROUNDS && low < high; round++) {
            int middle = (low + high) / 2;
            if (beginOf(middle) >= time) {
                high = middle;
            } else {
                low = middle + 1;
            }
        }
        return low;
    }

    /** At least 1, so that it can divide. */
    private static long commonDivisor(long first, long second) {
        long a = first;
        long b = second;
        for (int round = 0; round < MOST_ROUNDS && b > 0; round++) {
            long rest = a % b;
            a = b;
            b = rest;
        }
        return Math.max(a, 1L);
    }

    /**
     * The sum of (rise * k) / span, each rounded downward, for k from 0 to count - 1.
     *
     * By Euclid's way: what is left when the whole parts are out counts points under a line,
     * and these are counted along the other axis in the next round. Adding up one k after the
     * other would take up to 2000 rounds for each TICK that a search looks at.
     */
    private static long sumOfQuotients(int count, int rise, int span) {
        long points = count;
        long up = rise;
        long along = span;
        long start = 0;
        long sum = 0;
        for (int round = 0; round < MOST_ROUNDS && along > 0 && points > 0; round++) {
            sum += points * (points - 1) / 2 * Math.floorDiv(up, along);
            sum += points * Math.floorDiv(start, along);
            up = Math.floorMod(up, along);
            start = Math.floorMod(start, along);
            long top = up * points + start;
            points = top / along;
            start = top % along;
            long other = along;
            along = up;
            up = other;
        }
        return sum;
    }

    /** The MARKS by their TICKS. */
    private static final class Marks {
        private final int[] ticks = new int[MOST_MARKS];
        /** n of a SLOPE, 0 of a STEP. */
        private final int[] spans = new int[MOST_MARKS];
        private final int[] firstPaces = new int[MOST_MARKS];
        private final int[] lastPaces = new int[MOST_MARKS];
        /** How many UNITS all TICKS ahead of a MARK last; kept, as every search asks for it often. */
        private final long[] unitsBefore = new long[MOST_MARKS];
        private int size;

        /** The place of the last MARK at or ahead of a TICK; -1: there is none. */
        private int placeOf(int tick) {
            int place = size - 1;
            while (place >= 0 && ticks[place] > tick) {
                place--;
            }
            return place;
        }

        boolean isInsideSlope(int tick) {
            int place = placeOf(tick);
            return place >= 0 && ticks[place] < tick && tick - ticks[place] < spans[place];
        }

        /** Whether there is a MARK behind the one TICK and ahead of the other. */
        boolean isAnyBetween(int tick, int end) {
            int place = placeOf(end - 1);
            return place >= 0 && ticks[place] > tick;
        }

        /** What mark() tells of the MARK at a place, or NONE. */
        int tell(int place, int what) {
            if (place < 0 || place >= size) {
                return NONE;
            }
            switch (what) {
                case 0: return ticks[place];
                case 1: return spans[place] > 0 ? 1 : 0;
                case 2: return firstPaces[place];
                case 3: return lastPaces[place];
                default: return spans[place];
            }
        }

        int putStep(int tick, int pace) {
            return put(tick, 0, pace, pace);
        }

        /** How many MARKS there are then, or ROOM. */
        int put(int tick, int span, int firstPace, int lastPace) {
            int place = placeOf(tick);
            if (place < 0 || ticks[place] != tick) {
                if (size >= MOST_MARKS) {
                    return ROOM;
                }
                place++;
                openRow(place);
            }
            ticks[place] = tick;
            spans[place] = span;
            firstPaces[place] = firstPace;
            lastPaces[place] = lastPace;
            renewUnitsBefore(place);
            return size;
        }

        /** How many MARKS there are then, or STATE. */
        int remove(int tick) {
            int place = placeOf(tick);
            if (place < 0 || ticks[place] != tick) {
                return STATE;
            }
            for (int i = place; i < size - 1; i++) {
                copyRow(i + 1, i);
            }
            size--;
            renewUnitsBefore(place);
            return size;
        }

        private void openRow(int place) {
            for (int i = size; i > place; i--) {
                copyRow(i - 1, i);
            }
            size++;
        }

        private void copyRow(int from, int to) {
            ticks[to] = ticks[from];
            spans[to] = spans[from];
            firstPaces[to] = firstPaces[from];
            lastPaces[to] = lastPaces[from];
        }

        private void renewUnitsBefore(int firstPlace) {
            for (int i = firstPlace; i < size; i++) {
                unitsBefore[i] = unitsAheadBy(i - 1, ticks[i]);
            }
        }

        int unitsOfTick(int tick) {
            int place = placeOf(tick);
            if (place < 0) {
                return FIRST_PACE;
            }
            int k = tick - ticks[place];
            int span = spans[place];
            if (span < 1 || k >= span) {
                return lastPaces[place];
            }
            // Less than a million by 2000: an int holds it.
            int rise = lastPaces[place] - firstPaces[place];
            return firstPaces[place] + Math.floorDiv(rise * k, span);
        }

        /** How many UNITS all TICKS ahead of a TICK last. */
        long unitsAhead(int tick) {
            return unitsAheadBy(placeOf(tick), tick);
        }

        /** The same by the MARK at a place (-1: by none), where no other one stands between it and the TICK. */
        private long unitsAheadBy(int place, int tick) {
            if (place < 0) {
                return (long) FIRST_PACE * tick;
            }
            int passed = tick - ticks[place];
            int sloping = Math.min(passed, spans[place]);
            int rise = lastPaces[place] - firstPaces[place];
            return unitsBefore[place]
                    + (long) firstPaces[place] * sloping
                    + sumOfQuotients(sloping, rise, spans[place])
                    + (long) lastPaces[place] * (passed - sloping);
        }
    }

    /** The HOLDS, in no order: all that is asked of them is a sum. */
    private static final class Holds {
        private final int[] ticks = new int[MOST_HOLDS];
        private final int[] units = new int[MOST_HOLDS];
        private int size;

        /** The place of the HOLD at a TICK; -1: there is none. */
        private int placeOf(int tick) {
            int place = size - 1;
            while (place >= 0 && ticks[place] != tick) {
                place--;
            }
            return place;
        }

        /** How many HOLDS there are then, or ROOM. */
        int put(int tick, int length) {
            int place = placeOf(tick);
            if (place < 0) {
                if (size >= MOST_HOLDS) {
                    return ROOM;
                }
                place = size;
                size++;
            }
            ticks[place] = tick;
            units[place] = length;
            return size;
        }

        /** How many HOLDS there are then. */
        int remove(int tick) {
            int place = placeOf(tick);
            if (place >= 0) {
                size--;
                ticks[place] = ticks[size];
                units[place] = units[size];
            }
            return size;
        }

        long unitsUpTo(int tick) {
            long sum = 0;
            for (int i = 0; i < size; i++) {
                if (ticks[i] <= tick) {
                    sum += units[i];
                }
            }
            return sum;
        }
    }

    /** The TAPS, and the line that fits them best: its b is above() / below(), not yet in least terms. */
    private static final class Taps {
        private final long[] times = new long[MOST_TAPS];
        private int size;

        /** How many TAPS there are then, or STATE, or ROOM. */
        int add(long time) {
            if (size > 0 && time <= times[size - 1]) {
                return STATE;
            }
            if (size >= MOST_TAPS) {
                return ROOM;
            }
            times[size] = time;
            size++;
            return size;
        }

        /** How many TAPS there were. */
        int removeAll() {
            int before = size;
            size = 0;
            return before;
        }

        /** 40 by 780 by 10^12 at most: a long holds it. */
        long above() {
            long sumOfPlaces = 0;
            long sumOfTimes = 0;
            long sumOfProducts = 0;
            for (int i = 0; i < size; i++) {
                sumOfPlaces += i;
                sumOfTimes += times[i];
                sumOfProducts += times[i] * i;
            }
            return size * sumOfProducts - sumOfPlaces * sumOfTimes;
        }

        /** 0 for fewer than two TAPS. */
        long below() {
            long sumOfPlaces = 0;
            long sumOfSquares = 0;
            for (int i = 0; i < size; i++) {
                sumOfPlaces += i;
                sumOfSquares += (long) i * i;
            }
            return size * sumOfSquares - sumOfPlaces * sumOfPlaces;
        }
    }
}
