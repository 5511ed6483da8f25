/** A mill that grinds as the wind blows. */
public final class GustMill {
    private static final int NONE = -1;
    private static final int MOST_STONES = 4;
    private static final int MOST_SIZE = 9;
    private static final int WIND_NUMBERS = 12;
    private static final int MOST_WIND = 20;
    private static final int WIND_AT_FIRST = 5;
    private static final int MOST_SACKS = 16;
    private static final int BAKERS = 8;
    private static final int MOST_GRAIN = 60;
    private static final int MOST_UNTIL = 200;
    private static final int RULES = 3;
    private static final int BY_HOURS = 1;
    private static final int BY_LEFT = 2;
    private static final int MOST_HOURS = 60;
    private static final int FORESIGHT = 200;
    private static final int LATE_IF_NOT_GROUND = 200;
    private static final int SPARE_IF_NOT_GROUND = -999;
    private static final int HOURS_IN_DIGEST = 12;
    private static final long DIGEST_START = 2281L;

    private final State now;
    // One for all questions about what would be, so that asking makes no objects.
    private final State trial;

    /** Creates a mill without stones and sacks, at the hour 0. */
    public GustMill() {
        now = new State();
        trial = new State();
    }

    // ---- the mill

    /**
     * Adds a stone.
     *
     * @param size the size of a new stone
     * @return its number
     * @throws IllegalArgumentException if size is not 1 to 9
     * @throws IllegalStateException if there are 4
     */
    public int addStone(int size) throws IllegalArgumentException, IllegalStateException {
        if (size < 1 || size > MOST_SIZE) {
            throw new IllegalArgumentException("size is not 1 to 9");
        }
        if (now.stoneCount >= MOST_STONES) {
            throw new IllegalStateException("there are 4 stones");
        }
        return now.placeStone(size);
    }

    /**
     * Sets one number of the wind.
     *
     * @param number which number of the wind
     * @param wind what it is from now on
     * @return what it was
     * @throws IndexOutOfBoundsException if number is not 0 to 11
     * @throws IllegalArgumentException if wind is not 0 to 20
     */
    public int setWind(int number, int wind) throws IndexOutOfBoundsException, IllegalArgumentException {
        if (number < 0 || number >= WIND_NUMBERS) {
            throw new IndexOutOfBoundsException("number is not 0 to 11");
        }
        if (wind < 0 || wind > MOST_WIND) {
            throw new IllegalArgumentException("wind is not 0 to 20");
        }
        int before = now.winds[number];
        now.winds[number] = wind;
        return before;
    }

    /**
     * Sets the rule.
     *
     * @param rule the rule from now on
     * @return the one before
     * @throws IllegalArgumentException if rule is not 0 to 2
     */
    public int setRule(int rule) throws IllegalArgumentException {
        requireRule(rule);
        int before = now.rule;
        now.rule = rule;
        return before;
    }

    /**
     * Allows taking off, or not.
     *
     * @param isAllowed whether taking off is allowed from now on
     * @return whether it was
     */
    public boolean setTakingOff(boolean isAllowed) {
        boolean before = now.isTakingOff;
        now.isTakingOff = isAllowed;
        return before;
    }

    // ---- sacks and hours

    /**
     * A baker brings a sack.
     *
     * @param baker the baker
     * @param grain how much grain
     * @param until the hour by which it should be ground
     * @return its number
     * @throws IllegalArgumentException if baker is not 0 to 7, grain is not 1 to 60, or until is not 1 to 200
     * @throws IllegalStateException if there are 16
     */
    public int bring(int baker, int grain, int until) throws IllegalArgumentException, IllegalStateException {
        requireBaker(baker);
        requireGrain(grain);
        requireUntil(until);
        if (now.sackCount >= MOST_SACKS) {
            throw new IllegalStateException("there are 16 sacks");
        }
        return now.storeSack(baker, grain, until);
    }

    /**
     * Takes a sack off its stone by hand; its grain stays as it is.
     *
     * @param sack the sack
     * @return the stone on which it lay
     * @throws IndexOutOfBoundsException if there is no such sack
     * @throws IllegalStateException if it lies on none
     */
    public int lift(int sack) throws IndexOutOfBoundsException, IllegalStateException {
        requireSack(sack);
        int stone = now.stonesUnder[sack];
        if (stone == NONE) {
            throw new IllegalStateException("the sack lies on no stone");
        }
        now.clearStone(stone);
        return stone;
    }

    /**
     * Gives a sack another hour.
     *
     * @param sack the sack
     * @param until the hour by which it should be ground
     * @return the one before
     * @throws IndexOutOfBoundsException if there is no such sack
     * @throws IllegalArgumentException if until is not 1 to 200
     */
    public int setUntil(int sack, int until) throws IndexOutOfBoundsException, IllegalArgumentException {
        requireSack(sack);
        requireUntil(until);
        int before = now.untils[sack];
        now.untils[sack] = until;
        return before;
    }

    /**
     * Lets hours go by.
     *
     * @param hours how many
     * @return how much is ground in them
     * @throws IllegalArgumentException if hours is not 1 to 60
     */
    public int pass(int hours) throws IllegalArgumentException {
        requireHours(hours);
        return now.run(hours);
    }

    // ---- what there is

    /** Returns the hour. */
    public int hour() {
        return now.hour;
    }

    /** Returns how many stones there are. */
    public int stones() {
        return now.stoneCount;
    }

    /** Returns how many sacks there are. */
    public int sacks() {
        return now.sackCount;
    }

    /** Returns the rule. */
    public int rule() {
        return now.rule;
    }

    /** Returns the wind of this hour. */
    public int wind() {
        return now.windOfHour();
    }

    /**
     * Returns the sack on a stone; -1 without one.
     *
     * @param stone a stone
     * @throws IndexOutOfBoundsException if there is no such stone
     */
    public int sackOn(int stone) throws IndexOutOfBoundsException {
        if (stone < 0 || stone >= now.stoneCount) {
            throw new IndexOutOfBoundsException("there is no such stone");
        }
        return now.sacksUpon[stone];
    }

    /**
     * Returns the stone on which a sack lies; -1 if on none.
     *
     * @param sack a sack
     * @throws IndexOutOfBoundsException if there is no such sack
     */
    public int stoneOf(int sack) throws IndexOutOfBoundsException {
        requireSack(sack);
        return now.stonesUnder[sack];
    }

    /**
     * Returns how much of a sack is left.
     *
     * @param sack a sack
     * @throws IndexOutOfBoundsException if there is no such sack
     */
    public int leftOf(int sack) throws IndexOutOfBoundsException {
        requireSack(sack);
        return now.lefts[sack];
    }

    /**
     * Returns the hour by which a sack should be ground.
     *
     * @param sack a sack
     * @throws IndexOutOfBoundsException if there is no such sack
     */
    public int untilOf(int sack) throws IndexOutOfBoundsException {
        requireSack(sack);
        return now.untils[sack];
    }

    /**
     * Returns the hour at which a sack was ground; -1 if it is not.
     *
     * @param sack a sack
     * @throws IndexOutOfBoundsException if there is no such sack
     */
    public int groundAt(int sack) throws IndexOutOfBoundsException {
        requireSack(sack);
        return now.groundHours[sack];
    }

    /** Returns how many sacks are ground. */
    public int ground() {
        return now.groundCount;
    }

    /** Returns how often a stone got a sack. */
    public int changes() {
        return now.changeCount;
    }

    // ---- whose turn it is

    /** Returns the first sack by the rule, of those that are not ground; -1 if there is none. */
    public int first() {
        return now.firstByRule(false);
    }

    /**
     * Returns how many sacks that are not ground come ahead of a sack by the rule; -1 if it is ground.
     *
     * @param sack a sack
     * @throws IndexOutOfBoundsException if there is no such sack
     */
    public int placeOf(int sack) throws IndexOutOfBoundsException {
        requireSack(sack);
        return now.isGround(sack) ? NONE : now.countAhead(sack);
    }

    /**
     * Returns how much is left of the baker's sacks, in all.
     *
     * @param baker a baker
     * @throws IllegalArgumentException if baker is not 0 to 7
     */
    public int leftFor(int baker) throws IllegalArgumentException {
        requireBaker(baker);
        int left = 0;
        for (int sack = 0; sack < now.sackCount; sack++) {
            if (now.bakers[sack] == baker) {
                left += now.lefts[sack];
            }
        }
        return left;
    }

    /** Returns how many hours all sacks that were ground are late, added. */
    public int late() {
        return now.hoursLate();
    }

    // ---- what would be

    /**
     * Returns the hour at which a sack is ground, if nothing else is done: within 200 hours from now,
     * or as it was; -1 if not by then (nothing is changed).
     *
     * @param sack a sack
     * @throws IndexOutOfBoundsException if there is no such sack
     */
    public int willBeGroundAt(int sack) throws IndexOutOfBoundsException {
        requireSack(sack);
        lookAhead();
        return trial.groundHours[sack];
    }

    /**
     * Returns by how many hours a sack will be ahead of its hour, if nothing else is done, less than 0
     * if it is late; -999 if it is not ground within 200 hours (nothing is changed).
     *
     * @param sack a sack
     * @throws IndexOutOfBoundsException if there is no such sack
     */
    public int spareOf(int sack) throws IndexOutOfBoundsException {
        requireSack(sack);
        lookAhead();
        return trial.isGround(sack) ? trial.untils[sack] - trial.groundHours[sack] : SPARE_IF_NOT_GROUND;
    }

    /**
     * Returns how many hours all sacks would be late, added, if that was so from now on, and 200 hours
     * went by; each that is not ground then counts 200 (nothing is changed).
     *
     * @param rule a rule
     * @param isAllowed whether taking off is allowed
     * @throws IllegalArgumentException if rule is not 0 to 2
     */
    public int lateWith(int rule, boolean isAllowed) throws IllegalArgumentException {
        requireRule(rule);
        trial.become(now);
        trial.rule = rule;
        trial.isTakingOff = isAllowed;
        trial.run(FORESIGHT);
        return trial.hoursLate() + LATE_IF_NOT_GROUND * (trial.sackCount - trial.groundCount);
    }

    /**
     * Returns the rule with the smallest lateWith(), taking off allowed or not as now, of several the
     * smallest number (nothing is changed).
     */
    public int bestRule() {
        int best = 0;
        int leastLate = lateWith(0, now.isTakingOff);
        for (int rule = 1; rule < RULES; rule++) {
            int late = lateWith(rule, now.isTakingOff);
            if (late < leastLate) {
                best = rule;
                leastLate = late;
            }
        }
        return best;
    }

    /**
     * Returns whether a sack with them, brought now, would be ground in time, if nothing else is done;
     * false if there are 16 (nothing is changed).
     *
     * @param grain how much grain
     * @param until an hour
     * @throws IllegalArgumentException if grain is not 1 to 60, or until is not 1 to 200
     */
    public boolean wouldBeInTime(int grain, int until) throws IllegalArgumentException {
        requireGrain(grain);
        requireUntil(until);
        if (now.sackCount >= MOST_SACKS) {
            return false;
        }
        trial.become(now);
        // No rule looks at the baker, so any one serves.
        int sack = trial.storeSack(0, grain, until);
        // No hour that can be asked for is beyond 200, so looking 200 hours ahead always tells.
        trial.run(FORESIGHT);
        return trial.isGround(sack) && trial.groundHours[sack] <= until;
    }

    /**
     * Returns how much will be ground in some hours, if nothing else is done (nothing is changed).
     *
     * @param hours how many hours
     * @throws IllegalArgumentException if hours is not 1 to 60
     */
    public int groundIn(int hours) throws IllegalArgumentException {
        requireHours(hours);
        trial.become(now);
        return trial.run(hours);
    }

    /** Returns the mean of what is left of sacks that are not ground; 0 without any. */
    public double meanLeft() {
        int count = now.sackCount - now.groundCount;
        if (count <= 0) {
            return 0.0;
        }
        int left = 0;
        for (int sack = 0; sack < now.sackCount; sack++) {
            left += now.lefts[sack];
        }
        return (double) left / (double) count;
    }

    /** Computes a checksum of what the other calls answer. */
    public long digest() {
        long d = DIGEST_START;
        d = mix(d, hour());
        d = mix(d, stones());
        d = mix(d, sacks());
        d = mix(d, rule());
        d = mix(d, wind());
        d = mix(d, ground());
        d = mix(d, changes());
        d = mix(d, first());
        d = mix(d, late());
        d = mix(d, bestRule());
        d = mix(d, groundIn(HOURS_IN_DIGEST));
        for (int stone = 0; stone < now.stoneCount; stone++) {
            d = mix(d, sackOn(stone));
        }
        d = mixSacks(d);
        for (int baker = 0; baker < BAKERS; baker++) {
            d = mix(d, leftFor(baker));
        }
        return d;
    }

    private long mixSacks(long before) {
        long d = before;
        // One look ahead tells willBeGroundAt() of every sack.
        lookAhead();
        for (int sack = 0; sack < now.sackCount; sack++) {
            d = mix(d, stoneOf(sack));
            d = mix(d, leftOf(sack));
            d = mix(d, untilOf(sack));
            d = mix(d, groundAt(sack));
            d = mix(d, placeOf(sack));
            d = mix(d, trial.groundHours[sack]);
        }
        return d;
    }

    private static long mix(long d, int x) {
        return d * 31L + x;
    }

    /** Makes the trial what the mill will be, if nothing else is done, when all foresight is used up. */
    private void lookAhead() {
        trial.become(now);
        trial.run(FORESIGHT);
    }

    private void requireSack(int sack) {
        if (sack < 0 || sack >= now.sackCount) {
            throw new IndexOutOfBoundsException("there is no such sack");
        }
    }

    private static void requireRule(int rule) {
        if (rule < 0 || rule >= RULES) {
            throw new IllegalArgumentException("rule is not 0 to 2");
        }
    }

    private static void requireBaker(int baker) {
        if (baker < 0 || baker >= BAKERS) {
            throw new IllegalArgumentException("baker is not 0 to 7");
        }
    }

    private static void requireGrain(int grain) {
        if (grain < 1 || grain > MOST_GRAIN) {
            throw new IllegalArgumentException("grain is not 1 to 60");
        }
    }

    private static void requireUntil(int until) {
        if (until < 1 || until > MOST_UNTIL) {
            throw new IllegalArgumentException("until is not 1 to 200");
        }
    }

    private static void requireHours(int hours) {
        if (hours < 1 || hours > MOST_HOURS) {
            throw new IllegalArgumentException("hours is not 1 to 60");
        }
    }

    /** All that a mill is at one hour, and how it goes on from there. */
    private static final class State {
        private final int[] winds = new int[WIND_NUMBERS];
        private final int[] sizes = new int[MOST_STONES];
        private final int[] sacksUpon = new int[MOST_STONES];
        private final boolean[] isFresh = new boolean[MOST_STONES];
        private final int[] bakers = new int[MOST_SACKS];
        private final int[] lefts = new int[MOST_SACKS];
        private final int[] untils = new int[MOST_SACKS];
        private final int[] stonesUnder = new int[MOST_SACKS];
        private final int[] groundHours = new int[MOST_SACKS];
        private int hour = 0;
        private int stoneCount = 0;
        private int sackCount = 0;
        private int groundCount = 0;
        private int changeCount = 0;
        private int rule = 0;
        private boolean isTakingOff = false;

        State() {
            for (int number = 0; number < WIND_NUMBERS; number++) {
                winds[number] = WIND_AT_FIRST;
            }
        }

        void become(State other) {
            // isFresh is left out: every hour tells it anew before it is asked.
            copyRow(other.winds, winds);
            copyRow(other.sizes, sizes);
            copyRow(other.sacksUpon, sacksUpon);
            copyRow(other.bakers, bakers);
            copyRow(other.lefts, lefts);
            copyRow(other.untils, untils);
            copyRow(other.stonesUnder, stonesUnder);
            copyRow(other.groundHours, groundHours);
            hour = other.hour;
            stoneCount = other.stoneCount;
            sackCount = other.sackCount;
            groundCount = other.groundCount;
            changeCount = other.changeCount;
            rule = other.rule;
            isTakingOff = other.isTakingOff;
        }

        private static void copyRow(int[] from, int[] to) {
            for (int i = 0; i < from.length && i < to.length; i++) {
                to[i] = from[i];
            }
        }

        /** Adds a stone; the caller has looked that there is room for it. */
        int placeStone(int size) {
            int stone = stoneCount;
            sizes[stone] = size;
            sacksUpon[stone] = NONE;
            stoneCount = stone + 1;
            return stone;
        }

        /** Adds a sack; the caller has looked that there is room for it. */
        int storeSack(int baker, int grain, int until) {
            int sack = sackCount;
            bakers[sack] = baker;
            lefts[sack] = grain;
            untils[sack] = until;
            stonesUnder[sack] = NONE;
            groundHours[sack] = NONE;
            sackCount = sack + 1;
            return sack;
        }

        /** Lets hours go by and returns how much is ground in them. */
        int run(int hours) {
            int end = hour + hours;
            int milled = 0;
            // Once all is ground, the hours that remain only go by.
            for (int i = 0; i < hours && groundCount < sackCount; i++) {
                if (isTakingOff) {
                    takeOffUnwanted();
                }
                fillStones();
                milled += grind();
                hour++;
                finishSacks();
            }
            hour = end;
            return milled;
        }

        private void takeOffUnwanted() {
            for (int stone = 0; stone < stoneCount; stone++) {
                int sack = sacksUpon[stone];
                if (sack != NONE && countAhead(sack) >= stoneCount) {
                    clearStone(stone);
                }
            }
        }

        private void fillStones() {
            for (int stone = 0; stone < stoneCount; stone++) {
                int sack = sacksUpon[stone] == NONE ? firstByRule(true) : NONE;
                isFresh[stone] = sack != NONE;
                if (sack != NONE) {
                    sacksUpon[stone] = sack;
                    stonesUnder[sack] = stone;
                    changeCount++;
                }
            }
        }

        private int grind() {
            int wind = windOfHour();
            int milled = 0;
            for (int stone = 0; stone < stoneCount; stone++) {
                int sack = sacksUpon[stone];
                if (sack != NONE) {
                    int might = isFresh[stone] ? sizes[stone] - 1 : sizes[stone];
                    int amount = Math.min(might, Math.min(lefts[sack], wind - milled));
                    lefts[sack] -= amount;
                    milled += amount;
                }
            }
            return milled;
        }

        private void finishSacks() {
            for (int stone = 0; stone < stoneCount; stone++) {
                int sack = sacksUpon[stone];
                if (sack != NONE && isGround(sack)) {
                    groundHours[sack] = hour;
                    groundCount++;
                    clearStone(stone);
                }
            }
        }

        void clearStone(int stone) {
            int sack = sacksUpon[stone];
            if (sack != NONE) {
                stonesUnder[sack] = NONE;
                sacksUpon[stone] = NONE;
            }
        }

        int windOfHour() {
            return winds[Math.floorMod(hour, WIND_NUMBERS)];
        }

        boolean isGround(int sack) {
            return lefts[sack] == 0;
        }

        /** Returns the first sack by the rule that is not ground, or NONE; if asked so, of those on no stone. */
        int firstByRule(boolean isOffStones) {
            int best = NONE;
            for (int sack = 0; sack < sackCount; sack++) {
                boolean isOne = !isGround(sack) && !(isOffStones && stonesUnder[sack] != NONE);
                if (isOne && (best == NONE || isAhead(sack, best))) {
                    best = sack;
                }
            }
            return best;
        }

        int countAhead(int sack) {
            int count = 0;
            for (int other = 0; other < sackCount; other++) {
                if (!isGround(other) && isAhead(other, sack)) {
                    count++;
                }
            }
            return count;
        }

        private boolean isAhead(int one, int other) {
            int difference = 0;
            if (rule == BY_HOURS) {
                difference = untils[one] - untils[other];
            } else if (rule == BY_LEFT) {
                difference = lefts[one] - lefts[other];
            }
            return difference < 0 || (difference == 0 && one < other);
        }

        int hoursLate() {
            int hours = 0;
            for (int sack = 0; sack < sackCount; sack++) {
                if (isGround(sack)) {
                    hours += Math.max(0, groundHours[sack] - untils[sack]);
                }
            }
            return hours;
        }
    }
}
