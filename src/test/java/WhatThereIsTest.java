/** Promises 10 to 21: what there is. */
public final class WhatThereIsTest {
    public static void main(String[] args) {
        counts();
        ruleAndWind();
        stonesAndSacks();
        leftAndUntil();
        groundAndChanges();
        noSuchSack();
        Runs.end();
    }

    private static void counts() {
        Runs.check("promise 10", "hour = 0", "pass 1 = 0", "hour = 1", "pass 61 = IAE", "hour = 1", "pass 60 = 0",
            "hour = 61", "groundIn 60 = 0", "hour = 61");
        Runs.check("promise 11", "stones = 0", "addStone 3 = 0", "stones = 1", "addStone 0 = IAE", "stones = 1",
            "addStone 3 = 1", "addStone 3 = 2", "addStone 3 = 3", "addStone 3 = ISE", "stones = 4");
        Runs.check("promise 12", "sacks = 0", "bring 0 3 3 = 0", "sacks = 1", "wouldBeInTime 3 9 = false", "sacks = 1",
            "addStone 9 = 0", "pass 1 = 3", "ground = 1", "sacks = 1", "bring 0 61 1 = IAE", "sacks = 1");
    }

    private static void ruleAndWind() {
        Runs.check("promise 13", "rule = 0", "setRule 2 = 0", "rule = 2", "setRule 3 = IAE", "rule = 2", "bestRule = 0",
            "lateWith 1 1 = 0", "rule = 2");
        Runs.check("promise 14", "wind = 5", "setWind 0 20 = 5", "setWind 11 3 = 5", "setWind 1 0 = 5", "wind = 20",
            "pass 11 = 0", "wind = 3", "pass 1 = 0", "wind = 20", "pass 1 = 0", "wind = 0", "pass 60 = 0", "wind = 0");
    }

    private static void stonesAndSacks() {
        Runs.check("promises 15 and 16", "sackOn 0 = IOOBE", "sackOn -1 = IOOBE", "addStone 2 = 0", "sackOn 0 = -1",
            "sackOn 1 = IOOBE", "addStone 2 = 1", "sackOn 1 = -1", "sackOn 2 = IOOBE", "sackOn 2147483647 = IOOBE",
            "sackOn -2147483648 = IOOBE", "bring 0 9 90 = 0", "bring 0 9 80 = 1", "bring 0 9 95 = 2", "setRule 1 = 0",
            "sackOn 0 = -1", "stoneOf 0 = -1", "pass 1 = 2", "sackOn 0 = 1", "sackOn 1 = 0", "stoneOf 0 = 1",
            "stoneOf 1 = 0", "stoneOf 2 = -1", "lift 0 = 1", "stoneOf 0 = -1", "sackOn 1 = -1");
    }

    private static void leftAndUntil() {
        Runs.check("promises 17 and 18", "addStone 5 = 0", "bring 0 11 7 = 0", "bring 1 60 200 = 1", "leftOf 0 = 11",
            "leftOf 1 = 60", "untilOf 0 = 7", "untilOf 1 = 200", "pass 1 = 4", "leftOf 0 = 7", "leftOf 1 = 60",
            "pass 2 = 7", "leftOf 0 = 0", "leftOf 1 = 60", "setUntil 0 8 = 7", "untilOf 0 = 8", "untilOf 1 = 200");
    }

    private static void groundAndChanges() {
        Runs.check("promises 19, 20 and 21", "addStone 5 = 0", "bring 0 4 9 = 0", "bring 1 5 9 = 1", "groundAt 0 = -1",
            "ground = 0", "changes = 0", "pass 1 = 4", "groundAt 0 = 1", "groundAt 1 = -1", "ground = 1", "changes = 1",
            "pass 1 = 4", "ground = 1", "changes = 2", "lift 1 = 0", "changes = 2", "pass 1 = 1", "changes = 3",
            "groundAt 1 = 3", "ground = 2", "pass 60 = 0", "groundAt 0 = 1", "groundAt 1 = 3", "ground = 2",
            "changes = 3");
    }

    private static void noSuchSack() {
        for (String call : new String[] {"stoneOf", "leftOf", "untilOf", "groundAt"}) {
            Runs.check("promises 16 to 19, no such sack", call + " 0 = IOOBE", "bring 0 4 9 = 0", "bring 0 4 9 = 1",
                call + " -1 = IOOBE", call + " 2 = IOOBE", call + " 15 = IOOBE", call + " 16 = IOOBE",
                call + " 2147483647 = IOOBE", call + " -2147483648 = IOOBE");
        }
    }
}
