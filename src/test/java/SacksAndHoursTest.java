/** Promises 6 to 9: sacks and hours. */
public final class SacksAndHoursTest {
    public static void main(String[] args) {
        bring();
        bringTooMany();
        lift();
        liftForAnother();
        setUntil();
        pass();
        passWithWind();
        passByRules();
        passTakingOff();
        passTakingOffByLeft();
        passFull();
        Runs.end();
    }

    private static void bring() {
        Runs.check("promise 6", "bring 0 1 1 = 0", "bring 7 60 200 = 1", "sacks = 2", "leftOf 0 = 1", "leftOf 1 = 60",
            "untilOf 0 = 1", "untilOf 1 = 200", "groundAt 0 = -1", "stoneOf 1 = -1", "leftFor 0 = 1", "leftFor 7 = 60",
            "bring -1 1 1 = IAE", "bring 8 1 1 = IAE", "bring 0 0 1 = IAE", "bring 0 61 1 = IAE", "bring 0 -1 1 = IAE",
            "bring 0 1 0 = IAE", "bring 0 1 201 = IAE", "bring 0 1 -1 = IAE", "bring 2147483647 1 1 = IAE",
            "bring -2147483648 1 1 = IAE", "bring 0 2147483647 1 = IAE", "bring 0 -2147483648 1 = IAE",
            "bring 0 1 2147483647 = IAE", "bring 0 1 -2147483648 = IAE", "sacks = 2", "bring 3 5 5 = 2");
        Runs.check("promise 6, a sack brought in a later hour", "addStone 5 = 0", "pass 3 = 0", "bring 0 4 1 = 0",
            "stoneOf 0 = -1", "pass 1 = 4", "groundAt 0 = 4", "late = 3");
    }

    private static void bringTooMany() {
        String[] rows = {};
        for (int sack = 0; sack < 16; sack++) {
            rows = Runs.join(rows, "bring " + sack % 8 + " " + (sack + 1) + " 9 = " + sack);
        }
        Runs.check("promise 6, 16 sacks", Runs.join(rows, "bring 0 1 1 = ISE", "bring 8 1 1 = IAE", "bring -1 1 1 = IAE",
            "bring 0 0 1 = IAE", "bring 0 61 1 = IAE", "bring 0 1 0 = IAE", "bring 0 1 201 = IAE", "sacks = 16",
            "leftOf 15 = 16", "leftFor 7 = 24"));
        Runs.check("promise 6, 16 with ground ones", Runs.join(rows, "addStone 9 = 0", "pass 60 = 136", "ground = 16",
            "bring 0 1 1 = ISE", "sacks = 16"));
    }

    private static void lift() {
        Runs.check("promise 7, wrong ones", "lift 0 = IOOBE", "lift -1 = IOOBE", "bring 0 5 9 = 0", "lift 0 = ISE",
            "lift 1 = IOOBE", "lift 2147483647 = IOOBE", "lift -2147483648 = IOOBE", "addStone 9 = 0", "lift 0 = ISE",
            "pass 1 = 5", "groundAt 0 = 1", "lift 0 = ISE");
        Runs.check("promise 7", "addStone 4 = 0", "addStone 3 = 1", "bring 0 20 50 = 0", "bring 1 20 50 = 1",
            "setWind 0 20 = 5", "setWind 1 20 = 5", "setWind 2 20 = 5", "pass 1 = 5", "lift 1 = 1", "stoneOf 1 = -1",
            "sackOn 1 = -1", "sackOn 0 = 0", "leftOf 1 = 18", "groundAt 1 = -1", "changes = 2", "lift 1 = ISE",
            "lift 0 = 0", "sackOn 0 = -1", "pass 1 = 5", "changes = 4", "stoneOf 0 = 0", "stoneOf 1 = 1", "pass 1 = 7",
            "changes = 4");
    }

    private static void liftForAnother() {
        Runs.check("promise 7, another gets the stone", "addStone 4 = 0", "bring 0 20 50 = 0", "pass 1 = 3",
            "bring 1 20 10 = 1", "setRule 1 = 0", "pass 1 = 4", "stoneOf 0 = 0", "lift 0 = 0", "pass 1 = 3",
            "sackOn 0 = 1", "leftOf 0 = 13", "leftOf 1 = 17", "lift 0 = ISE");
    }

    private static void setUntil() {
        Runs.check("promise 8", "setUntil 0 5 = IOOBE", "bring 0 5 9 = 0", "bring 0 5 19 = 1", "setUntil 1 1 = 19",
            "untilOf 1 = 1", "untilOf 0 = 9", "setUntil 1 200 = 1", "setUntil 1 0 = IAE", "setUntil 1 201 = IAE",
            "setUntil 0 -1 = IAE", "setUntil 0 2147483647 = IAE", "setUntil 0 -2147483648 = IAE", "setUntil -1 5 = IOOBE",
            "setUntil 2 5 = IOOBE", "setUntil -2147483648 5 = IOOBE", "setUntil 2147483647 5 = IOOBE",
            "setUntil 2 0 = IOOBE", "setUntil -1 201 = IOOBE", "untilOf 1 = 200");
        Runs.check("promise 8, the turns", "bring 0 5 9 = 0", "bring 0 5 19 = 1", "setRule 1 = 0", "first = 0",
            "setUntil 0 20 = 9", "first = 1", "setUntil 0 19 = 20", "first = 0");
        Runs.check("promise 8, a ground sack", "addStone 9 = 0", "bring 0 5 9 = 0", "pass 4 = 5", "late = 0",
            "setUntil 0 1 = 9", "groundAt 0 = 1", "late = 0", "bring 0 5 9 = 1", "pass 1 = 5", "setUntil 1 2 = 9",
            "late = 3", "setUntil 1 5 = 2", "late = 0");
    }

    private static void pass() {
        Runs.check("promise 9, wrong ones", "addStone 4 = 0", "bring 0 10 50 = 0", "pass 0 = IAE", "pass -1 = IAE",
            "pass 61 = IAE", "pass 2147483647 = IAE", "pass -2147483648 = IAE", "hour = 0", "stoneOf 0 = -1");
        Runs.check("promise 9, hour by hour", "addStone 4 = 0", "bring 0 10 50 = 0", "pass 1 = 3", "leftOf 0 = 7",
            "pass 1 = 4", "leftOf 0 = 3", "sackOn 0 = 0", "pass 1 = 3", "groundAt 0 = 3", "stoneOf 0 = -1",
            "sackOn 0 = -1", "pass 1 = 0", "hour = 4", "changes = 1");
        Runs.check("promise 9, many hours", "addStone 4 = 0", "bring 0 10 50 = 0", "bring 0 60 50 = 1", "pass 3 = 10",
            "pass 2 = 7", "pass 60 = 53", "hour = 65", "groundAt 1 = 19", "pass 60 = 0", "hour = 125");
        Runs.check("promise 9, no stones", "bring 0 10 50 = 0", "setTakingOff 1 = false", "pass 60 = 0", "hour = 60",
            "leftOf 0 = 10", "changes = 0");
        Runs.check("promise 9, the next sack in the next hour", "addStone 9 = 0", "bring 0 3 9 = 0", "bring 0 3 9 = 1",
            "pass 1 = 3", "sackOn 0 = -1", "pass 1 = 3", "groundAt 0 = 1", "groundAt 1 = 2", "changes = 2");
    }

    private static void passWithWind() {
        Runs.check("promise 9, wind is shared by numbers", "addStone 4 = 0", "addStone 4 = 1", "addStone 4 = 2",
            "bring 0 20 50 = 0", "bring 0 20 50 = 1", "bring 0 20 50 = 2", "pass 1 = 5", "leftOf 0 = 17",
            "leftOf 1 = 18", "leftOf 2 = 20", "stoneOf 2 = 2", "pass 1 = 5", "leftOf 0 = 13", "leftOf 1 = 17",
            "leftOf 2 = 20");
        Runs.check("promise 9, what a small sack leaves of the wind", "addStone 9 = 0", "addStone 9 = 1",
            "bring 0 2 50 = 0", "bring 0 20 50 = 1", "pass 1 = 5", "leftOf 0 = 0", "leftOf 1 = 17");
        Runs.check("promise 9, a stone without a sack takes none", "addStone 9 = 0", "addStone 4 = 1", "bring 0 1 50 = 0",
            "bring 0 20 50 = 1", "pass 1 = 4", "pass 1 = 4", "sackOn 0 = -1", "stoneOf 1 = 1", "leftOf 1 = 13");
        Runs.check("promise 9, no wind", "addStone 4 = 0", "bring 0 10 50 = 0", "setWind 0 0 = 5", "pass 1 = 0",
            "sackOn 0 = 0", "changes = 1", "pass 1 = 4");
        Runs.check("promise 9, size 1", "addStone 1 = 0", "bring 0 1 50 = 0", "pass 1 = 0", "stoneOf 0 = 0",
            "changes = 1", "pass 1 = 1", "groundAt 0 = 2");
    }

    private static void passByRules() {
        String[] rows = {"addStone 2 = 0", "addStone 2 = 1", "bring 0 30 90 = 0", "bring 0 20 80 = 1", "bring 0 10 85 = 2"};
        Runs.check("promise 9, by turns", Runs.join(rows, "pass 1 = 2", "sackOn 0 = 0", "sackOn 1 = 1"));
        Runs.check("promise 9, by hours", Runs.join(rows, "setRule 1 = 0", "pass 1 = 2", "sackOn 0 = 1", "sackOn 1 = 2"));
        Runs.check("promise 9, by left", Runs.join(rows, "setRule 2 = 0", "pass 1 = 2", "sackOn 0 = 2", "sackOn 1 = 1"));
    }

    private static void passTakingOff() {
        String[] rows = {"addStone 4 = 0", "addStone 4 = 1", "bring 0 30 90 = 0", "bring 0 30 80 = 1", "pass 1 = 5",
            "bring 0 10 10 = 2", "setRule 1 = 0"};
        Runs.check("promise 9, not allowed", Runs.join(rows, "pass 1 = 5", "sackOn 0 = 0", "sackOn 1 = 1", "changes = 2"));
        Runs.check("promise 9, one is taken off", Runs.join(rows, "setTakingOff 1 = false", "pass 1 = 5", "sackOn 0 = 2",
            "sackOn 1 = 1", "stoneOf 0 = -1", "changes = 3", "leftOf 0 = 27", "leftOf 1 = 26", "leftOf 2 = 7"));
        Runs.check("promise 9, two are taken off", Runs.join(rows, "bring 0 10 5 = 3", "setTakingOff 1 = false",
            "pass 1 = 5", "sackOn 0 = 3", "sackOn 1 = 2", "stoneOf 0 = -1", "stoneOf 1 = -1", "changes = 4"));
        Runs.check("promise 9, wanted are as many as there are stones", Runs.join(rows, "addStone 4 = 2",
            "setTakingOff 1 = false", "pass 1 = 5", "sackOn 0 = 0", "sackOn 1 = 1", "sackOn 2 = 2", "changes = 3"));
        Runs.check("promise 9, wanted ones keep their stones", "addStone 4 = 0", "addStone 4 = 1", "bring 0 30 90 = 0",
            "bring 0 30 80 = 1", "setTakingOff 1 = false", "pass 1 = 5", "setRule 1 = 0", "pass 3 = 15", "sackOn 0 = 0",
            "sackOn 1 = 1", "changes = 2");
    }

    private static void passTakingOffByLeft() {
        String[] rows = {"addStone 4 = 0", "setRule 2 = 0", "setTakingOff 1 = false", "bring 0 10 50 = 0", "pass 1 = 3"};
        Runs.check("promise 9, of as much the smaller number", Runs.join(rows, "bring 0 7 9 = 1", "pass 1 = 4",
            "sackOn 0 = 0", "changes = 1"));
        Runs.check("promise 9, less is left", Runs.join(rows, "bring 0 6 9 = 1", "pass 1 = 3", "sackOn 0 = 1",
            "stoneOf 0 = -1", "leftOf 0 = 7", "changes = 2", "pass 1 = 3", "groundAt 1 = 3", "pass 1 = 3",
            "sackOn 0 = 0", "changes = 3"));
        Runs.check("promise 9, allowed no more", Runs.join(rows, "bring 0 6 9 = 1", "setTakingOff 0 = true", "pass 1 = 4",
            "sackOn 0 = 0", "changes = 1"));
    }

    private static void passFull() {
        String[] rows = {"setTakingOff 1 = false", "setRule 2 = 0"};
        for (int stone = 0; stone < 4; stone++) {
            rows = Runs.join(rows, "addStone 1 = " + stone);
        }
        for (int sack = 0; sack < 16; sack++) {
            rows = Runs.join(rows, "bring " + sack % 8 + " 1 1 = " + sack);
        }
        Runs.check("promise 9, all stones and sacks", Runs.join(rows, "meanLeft = 1.0", "placeOf 15 = 15", "first = 0",
            "pass 1 = 0", "sackOn 3 = 3", "stoneOf 3 = 3", "leftFor 7 = 2", "groundIn 60 = 16", "willBeGroundAt 15 = 8",
            "pass 1 = 4", "sackOn 3 = -1", "ground = 4", "late = 4", "placeOf 15 = 11", "pass 60 = 12", "late = 64",
            "groundAt 15 = 8", "placeOf 15 = -1", "first = -1", "changes = 16", "meanLeft = 0.0"));
    }
}
