/** Promises 26 to 33: what would be. */
public final class WhatWouldBeTest {
    // Only the hours 7, 19, .. 199 have wind: its 17th hour is the last of the 200 from the hour 0.
    private static final String[] WIND_AT_7 = windOnlyAt(7);
    // Only the hours 8, 20, .. 200 have wind: its 17th hour is the first behind the 200 from the hour 0.
    private static final String[] WIND_AT_8 = windOnlyAt(8);
    private static final String[] ONE_OF_17 = {"addStone 9 = 0", "bring 0 17 200 = 0"};

    public static void main(String[] args) {
        willBeGroundAt();
        willBeGroundWithin200();
        spareOf();
        lateWith();
        lateWithin200();
        bestRule();
        bestRuleByTakingOff();
        wouldBeInTime();
        wouldBeInTimeAmongOthers();
        groundIn();
        meanLeft();
        digest();
        Runs.end();
    }

    private static String[] windOnlyAt(int hour) {
        String[] rows = {};
        for (int number = 0; number < 12; number++) {
            rows = Runs.join(rows, "setWind " + number + (number == hour ? " 1 = 5" : " 0 = 5"));
        }
        return rows;
    }

    private static String[] noSuchSack(String call) {
        return new String[] {call + " 0 = IOOBE", "bring 0 4 9 = 0", call + " -1 = IOOBE", call + " 1 = IOOBE",
            call + " 16 = IOOBE", call + " 2147483647 = IOOBE", call + " -2147483648 = IOOBE"};
    }

    private static void willBeGroundAt() {
        Runs.check("promise 26, no such sack", noSuchSack("willBeGroundAt"));
        Runs.check("promise 26", "addStone 4 = 0", "bring 0 10 50 = 0", "bring 0 3 1 = 1", "willBeGroundAt 0 = 3",
            "willBeGroundAt 1 = 4", "setRule 1 = 0", "willBeGroundAt 0 = 4", "willBeGroundAt 1 = 1", "setRule 0 = 1",
            "pass 3 = 10", "willBeGroundAt 0 = 3", "lift 1 = ISE", "willBeGroundAt 1 = 4", "pass 60 = 3",
            "willBeGroundAt 0 = 3", "willBeGroundAt 1 = 4", "pass 60 = 0", "pass 60 = 0", "pass 60 = 0",
            "willBeGroundAt 1 = 4");
        Runs.check("promise 26, taking off", "addStone 4 = 0", "bring 0 10 50 = 0", "pass 1 = 3", "bring 0 3 1 = 1",
            "setRule 1 = 0", "willBeGroundAt 0 = 3", "willBeGroundAt 1 = 4", "setTakingOff 1 = false",
            "willBeGroundAt 0 = 4", "willBeGroundAt 1 = 2");
        Runs.check("promise 26, without a stone", "bring 0 1 1 = 0", "willBeGroundAt 0 = -1");
    }

    private static void willBeGroundWithin200() {
        Runs.check("promise 26, at the 200th hour", Runs.join(Runs.join(WIND_AT_7, ONE_OF_17), "willBeGroundAt 0 = 200",
            "pass 7 = 0", "willBeGroundAt 0 = 200", "pass 1 = 1", "willBeGroundAt 0 = 200"));
        Runs.check("promise 26, at the 201st hour", Runs.join(Runs.join(WIND_AT_8, ONE_OF_17), "willBeGroundAt 0 = -1",
            "pass 1 = 0", "willBeGroundAt 0 = 201"));
    }

    private static void spareOf() {
        Runs.check("promise 27, no such sack", noSuchSack("spareOf"));
        Runs.check("promise 27", "addStone 4 = 0", "bring 0 10 50 = 0", "bring 0 3 1 = 1", "spareOf 0 = 47",
            "spareOf 1 = -3", "setUntil 1 4 = 1", "spareOf 1 = 0", "pass 60 = 13", "spareOf 0 = 47", "spareOf 1 = 0",
            "setUntil 0 1 = 50", "spareOf 0 = -2");
        Runs.check("promise 27, at the 200th hour", Runs.join(Runs.join(WIND_AT_7, ONE_OF_17), "spareOf 0 = 0"));
        Runs.check("promise 27, at the 201st hour", Runs.join(Runs.join(WIND_AT_8, ONE_OF_17), "spareOf 0 = -999",
            "pass 1 = 0", "spareOf 0 = -1"));
    }

    private static void lateWith() {
        Runs.check("promise 28, wrong ones", "lateWith -1 0 = IAE", "lateWith 3 1 = IAE", "lateWith 2147483647 0 = IAE",
            "lateWith -2147483648 1 = IAE");
        Runs.check("promise 28", "addStone 4 = 0", "bring 0 20 1 = 0", "bring 0 3 5 = 1", "lateWith 0 0 = 7",
            "lateWith 1 0 = 7", "lateWith 2 0 = 6", "lateWith 0 1 = 7", "lateWith 2 1 = 6", "setRule 2 = 0",
            "lateWith 0 0 = 7", "lateWith 2 0 = 6", "pass 2 = 6", "lateWith 0 0 = 6", "lateWith 1 1 = 6", "pass 60 = 17",
            "late = 6", "lateWith 0 1 = 6");
        Runs.check("promise 28, taking off", "addStone 4 = 0", "bring 0 20 50 = 0", "pass 1 = 3", "bring 0 3 2 = 1",
            "lateWith 0 0 = 5", "lateWith 0 1 = 5", "lateWith 1 0 = 5", "lateWith 1 1 = 0", "lateWith 2 0 = 5",
            "lateWith 2 1 = 0", "setTakingOff 1 = false", "lateWith 1 0 = 5", "lateWith 1 1 = 0");
    }

    private static void lateWithin200() {
        Runs.check("promise 28, not ground", "lateWith 0 0 = 0", "bring 0 1 200 = 0", "lateWith 0 0 = 200",
            "bring 0 1 1 = 1", "lateWith 2 1 = 400");
        Runs.check("promise 28, at the 200th hour", Runs.join(WIND_AT_7, "addStone 9 = 0", "bring 0 17 1 = 0",
            "lateWith 0 0 = 199"));
        Runs.check("promise 28, at the 201st hour", Runs.join(WIND_AT_8, "addStone 9 = 0", "bring 0 17 1 = 0",
            "lateWith 0 0 = 200", "setUntil 0 200 = 1", "lateWith 0 0 = 200", "pass 1 = 0", "lateWith 0 0 = 1"));
    }

    private static void bestRule() {
        Runs.check("promise 29, by left", "addStone 4 = 0", "bring 0 20 1 = 0", "bring 0 3 5 = 1", "bestRule = 2",
            "setRule 1 = 0", "bestRule = 2", "setRule 2 = 1", "bestRule = 2");
        Runs.check("promise 29, by hours", "addStone 4 = 0", "bring 0 20 50 = 0", "bring 0 20 3 = 1", "lateWith 0 0 = 9",
            "lateWith 1 0 = 3", "lateWith 2 0 = 9", "bestRule = 1");
        Runs.check("promise 29, two alike", "addStone 4 = 0", "bring 0 20 50 = 0", "bring 0 3 1 = 1", "lateWith 0 0 = 6",
            "lateWith 1 0 = 0", "lateWith 2 0 = 0", "setRule 2 = 0", "bestRule = 1");
        Runs.check("promise 29, all alike", "setRule 2 = 0", "bestRule = 0", "addStone 4 = 0", "bring 0 20 1 = 0",
            "bestRule = 0");
    }

    private static void bestRuleByTakingOff() {
        Runs.check("promise 29, taking off", "addStone 4 = 0", "bring 0 20 50 = 0", "pass 1 = 3", "bring 0 3 2 = 1",
            "bestRule = 0", "setTakingOff 1 = false", "bestRule = 1", "setTakingOff 0 = true", "bestRule = 0");
    }

    private static void wouldBeInTime() {
        Runs.check("promise 30, wrong ones", "addStone 9 = 0", "wouldBeInTime 0 9 = IAE", "wouldBeInTime 61 9 = IAE",
            "wouldBeInTime -1 9 = IAE", "wouldBeInTime 9 0 = IAE", "wouldBeInTime 9 201 = IAE", "wouldBeInTime 9 -1 = IAE",
            "wouldBeInTime 2147483647 9 = IAE", "wouldBeInTime -2147483648 9 = IAE", "wouldBeInTime 9 2147483647 = IAE",
            "wouldBeInTime 9 -2147483648 = IAE");
        Runs.check("promise 30", "wouldBeInTime 1 200 = false", "addStone 4 = 0", "wouldBeInTime 1 1 = true",
            "wouldBeInTime 3 1 = true", "wouldBeInTime 4 1 = false", "wouldBeInTime 4 2 = true",
            "wouldBeInTime 60 16 = true", "wouldBeInTime 60 15 = false", "sacks = 0", "pass 60 = 0",
            "wouldBeInTime 1 60 = false", "wouldBeInTime 3 61 = true", "wouldBeInTime 4 61 = false");
        String[] stone = {"addStone 9 = 0"};
        Runs.check("promise 30, at the 200th hour", Runs.join(Runs.join(WIND_AT_7, stone), "wouldBeInTime 17 200 = true",
            "wouldBeInTime 17 199 = false"));
        Runs.check("promise 30, at the 201st hour", Runs.join(Runs.join(WIND_AT_8, stone), "wouldBeInTime 17 200 = false",
            "wouldBeInTime 16 189 = true", "wouldBeInTime 16 188 = false"));
    }

    private static void wouldBeInTimeAmongOthers() {
        Runs.check("promise 30, among others", "addStone 4 = 0", "bring 0 10 50 = 0", "wouldBeInTime 3 4 = true",
            "wouldBeInTime 3 3 = false", "setRule 1 = 0", "wouldBeInTime 3 1 = true", "pass 1 = 3",
            "wouldBeInTime 3 2 = false", "wouldBeInTime 3 4 = true", "setTakingOff 1 = false", "wouldBeInTime 3 2 = true",
            "sacks = 1", "leftOf 0 = 7");
        String[] rows = {"addStone 9 = 0"};
        for (int sack = 0; sack < 15; sack++) {
            rows = Runs.join(rows, "bring 0 1 9 = " + sack);
        }
        Runs.check("promise 30, 16 sacks", Runs.join(rows, "wouldBeInTime 1 16 = true", "bring 0 1 9 = 15",
            "wouldBeInTime 1 200 = false", "wouldBeInTime 0 200 = IAE", "wouldBeInTime 1 201 = IAE", "pass 60 = 16",
            "wouldBeInTime 1 200 = false"));
    }

    private static void groundIn() {
        Runs.check("promise 31", "groundIn 0 = IAE", "groundIn 61 = IAE", "groundIn -1 = IAE", "groundIn 2147483647 = IAE",
            "groundIn -2147483648 = IAE", "groundIn 60 = 0", "addStone 4 = 0", "bring 0 10 50 = 0", "bring 0 60 50 = 1",
            "groundIn 1 = 3", "groundIn 2 = 7", "groundIn 3 = 10", "groundIn 4 = 13", "groundIn 60 = 70", "hour = 0",
            "pass 2 = 7", "groundIn 1 = 3", "groundIn 60 = 63", "setWind 2 1 = 5", "groundIn 1 = 1");
        Runs.check("promise 31, taking off", "addStone 4 = 0", "bring 0 20 50 = 0", "pass 1 = 3", "bring 0 3 2 = 1",
            "setRule 1 = 0", "groundIn 2 = 8", "setTakingOff 1 = false", "groundIn 2 = 6");
    }

    private static void meanLeft() {
        Runs.check("promise 32", "meanLeft = 0.0", "bring 0 1 9 = 0", "meanLeft = 1.0", "bring 0 2 9 = 1",
            "meanLeft = 1.5", "bring 1 1 9 = 2", "meanLeft = 1.3333333333333333", "addStone 9 = 0", "pass 1 = 1",
            "meanLeft = 1.5", "pass 1 = 2", "meanLeft = 1.0", "pass 1 = 1", "meanLeft = 0.0");
        Runs.check("promise 32, sacks on stones", "addStone 4 = 0", "bring 0 60 9 = 0", "bring 0 60 9 = 1", "pass 1 = 3",
            "meanLeft = 58.5");
    }

    private static void digest() {
        Runs.check("promise 33, a new object", "digest = " + mixed(0, 0, 0, 0, 5, 0, 0, -1, 0, 0, 0,
            0, 0, 0, 0, 0, 0, 0, 0));
        Runs.check("promise 33, 12 hours and 200", "addStone 1 = 0", "bring 3 16 50 = 0",
            "digest = " + mixed(0, 1, 1, 0, 5, 0, 0, 0, 0, 0, 11,
                -1,
                -1, 16, 50, -1, 0, 17,
                0, 0, 0, 16, 0, 0, 0, 0));
        Runs.check("promise 33", "addStone 4 = 0", "addStone 1 = 1", "bring 1 20 50 = 0", "pass 1 = 3", "bring 7 3 2 = 1",
            "setWind 1 6 = 5", "setTakingOff 1 = false", "setRule 2 = 0",
            "digest = " + mixed(1, 2, 2, 2, 6, 0, 1, 1, 0, 0, 20,
                0, -1,
                0, 17, 50, -1, 1, 6,
                -1, 3, 2, -1, 0, 5,
                0, 17, 0, 0, 0, 0, 0, 3),
            "pass 4 = 19", "digest = " + mixed(5, 2, 2, 2, 5, 1, 2, 0, 3, 0, 1,
                0, -1,
                0, 1, 50, -1, 0, 6,
                -1, 0, 2, 5, -1, 5,
                0, 1, 0, 0, 0, 0, 0, 0));
    }

    private static long mixed(int... numbers) {
        long d = 2281;
        for (int number : numbers) {
            d = d * 31 + number;
        }
        return d;
    }
}
