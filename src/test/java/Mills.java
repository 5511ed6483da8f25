/** Rows with which the runs of several tests begin, and rows that ask the same of several calls. */
final class Mills {
    /**
     * A mill in the middle of its work, at the hour 2: sack 0 is ground, 1 hour late; sack 2 lies on stone 1; stone 0
     * has none; sacks 1 and 3 wait; the rule is by hours, taking off is allowed, two winds are not as at first.
     */
    static final String[] BUSY = {"addStone 4 = 0", "addStone 3 = 1", "setWind 0 9 = 5", "setWind 1 8 = 5",
        "setRule 1 = 0", "setTakingOff 1 = false", "bring 2 4 1 = 0", "bring 5 20 9 = 1", "bring 2 30 5 = 2",
        "bring 7 6 9 = 3", "pass 2 = 9"};

    /** What the next hour of BUSY grinds: stone 0 gets sack 1 and grinds 3, stone 1 grinds the 2 that are left. */
    static final String[] BUSY_GOES_ON = {"pass 1 = 5", "sackOn 0 = 1", "sackOn 1 = 2", "leftOf 1 = 17",
        "leftOf 2 = 23", "leftOf 3 = 6", "late = 1", "changes = 3"};

    private Mills() {
    }

    /** Every wind, from the 5 at first, becomes this. */
    static String[] winds(int wind) {
        String[] rows = {};
        for (int number = 0; number < 12; number++) {
            rows = Runs.join(rows, "setWind " + number + " " + wind + " = 5");
        }
        return rows;
    }

    /** There is wind, and but 1, only in the hours with one number. */
    static String[] windOnlyAt(int number) {
        String[] rows = {};
        for (int other = 0; other < 12; other++) {
            rows = Runs.join(rows, "setWind " + other + (other == number ? " 1 = 5" : " 0 = 5"));
        }
        return rows;
    }

    /** The first stones, of these sizes. */
    static String[] stones(int... sizes) {
        String[] rows = {};
        for (int stone = 0; stone < sizes.length; stone++) {
            rows = Runs.join(rows, "addStone " + sizes[stone] + " = " + stone);
        }
        return rows;
    }

    /** The first sacks, by the bakers in turn, each with as much grain and the same hour. */
    static String[] sacks(int count, int grain, int until) {
        String[] rows = {};
        for (int sack = 0; sack < count; sack++) {
            rows = Runs.join(rows, "bring " + sack % 8 + " " + grain + " " + until + " = " + sack);
        }
        return rows;
    }

    /** The call, written with # for the number, is refused just outside of what is allowed, and far off. */
    static String[] refused(String call, int smallest, int largest, String exception) {
        String[] rows = {};
        for (int number : new int[] {smallest - 1, largest + 1, Integer.MIN_VALUE, Integer.MAX_VALUE}) {
            rows = Runs.join(rows, call.replace("#", String.valueOf(number)) + " = " + exception);
        }
        return rows;
    }

    /** There are so many sacks, and the call, written with # for the sack, is refused for all other numbers. */
    static String[] noSuchSack(String call, int sacks) {
        String[] rows = refused(call, 0, sacks - 1, "IOOBE");
        // 15 and 16 are the last that there can be and the first that there cannot be.
        for (int sack = Math.max(sacks, 15); sack <= 16; sack++) {
            rows = Runs.join(rows, call.replace("#", String.valueOf(sack)) + " = IOOBE");
        }
        return rows;
    }

    /** One part of a run after another. */
    static String[] rows(String[]... parts) {
        String[] rows = {};
        for (String[] part : parts) {
            rows = Runs.join(rows, part);
        }
        return rows;
    }

    /** Rows written one by one, where rows() wants a part. */
    static String[] of(String... rows) {
        return rows;
    }
}
