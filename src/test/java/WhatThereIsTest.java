/** Promises 10 to 21: what there is. Each title tells the sentence, and behind the second bar the case of it. */
public final class WhatThereIsTest {
    private static final String[] STRONG = Mills.winds(20);

    public static void main(String[] args) {
        hour();
        stones();
        sacks();
        rule();
        wind();
        sackOn();
        sackOnNoSuchStone();
        stoneOf();
        leftOf();
        untilOf();
        groundAt();
        noSuchSack();
        ground();
        changes();
        changesNotCounted();
        Runs.end();
    }

    private static void hour() {
        Runs.check("Promise 10 | Returns the hour. | 0, after 1, after 60", "hour = 0", "pass 1 = 0", "hour = 1",
            "pass 60 = 0", "hour = 61");
        Runs.check("Promise 10 | Returns the hour. | around 12, and beyond 200", "pass 11 = 0", "hour = 11", "pass 1 = 0",
            "hour = 12", "pass 1 = 0", "hour = 13", "pass 60 = 0", "pass 60 = 0", "pass 60 = 0", "hour = 193",
            "pass 60 = 0", "hour = 253");
        Runs.check("Promise 10 | Returns the hour. | as it was after refusals and questions", "addStone 9 = 0",
            "bring 0 5 9 = 0", "pass 61 = IAE", "pass 0 = IAE", "hour = 0", "groundIn 60 = 5", "willBeGroundAt 0 = 1",
            "lateWith 0 1 = 0", "hour = 0");
    }

    private static void stones() {
        Runs.check("Promise 11 | Returns how many stones there are. | none to 4", "stones = 0", "addStone 3 = 0",
            "stones = 1", "addStone 3 = 1", "stones = 2", "addStone 3 = 2", "stones = 3", "addStone 3 = 3", "stones = 4");
        Runs.check("Promise 11 | Returns how many stones there are. | as it was after refusals", "addStone 0 = IAE",
            "stones = 0", "addStone 3 = 0", "addStone 3 = 1", "addStone 10 = IAE", "stones = 2", "addStone 3 = 2",
            "addStone 3 = 3", "addStone 3 = ISE", "stones = 4");
    }

    private static void sacks() {
        String[] rows = {"sacks = 0"};
        for (int sack = 0; sack < 16; sack++) {
            rows = Runs.join(rows, "bring 0 3 3 = " + sack, "sacks = " + (sack + 1));
        }
        Runs.check("Promise 12 | Returns how many sacks there are. | none to 16", Runs.join(rows, "bring 0 3 3 = ISE",
            "sacks = 16"));
        Runs.check("Promise 12 | Returns how many sacks there are. | ground ones too", "bring 0 61 1 = IAE", "sacks = 0",
            "bring 0 3 3 = 0", "addStone 9 = 0", "wouldBeInTime 3 9 = true", "sacks = 1", "pass 1 = 3", "ground = 1",
            "sacks = 1");
    }

    private static void rule() {
        Runs.check("Promise 13 | Returns the rule. | 0 at first, each, and as it was after refusals and questions",
            "rule = 0", "setRule 2 = 0", "rule = 2", "setRule 3 = IAE", "setRule -1 = IAE", "rule = 2", "bestRule = 0",
            "lateWith 1 1 = 0", "rule = 2", "setRule 1 = 2", "rule = 1", "pass 60 = 0", "rule = 1", "setRule 0 = 1",
            "rule = 0");
    }

    private static void wind() {
        String[] winds = {"wind = 5", "setWind 0 20 = 5", "setWind 11 3 = 5", "setWind 1 0 = 5", "wind = 20"};
        Runs.check("Promise 14 | Returns the wind of this hour. | hours 0, 11, 12 and 13", Runs.join(winds, "pass 11 = 0",
            "wind = 3", "pass 1 = 0", "wind = 20", "pass 1 = 0", "wind = 0"));
        Runs.check("Promise 14 | Returns the wind of this hour. | hours 23, 24 and 25, 59, 60 and 61", Runs.join(winds,
            "pass 23 = 0", "wind = 3", "pass 1 = 0", "wind = 20", "pass 1 = 0", "wind = 0", "pass 34 = 0", "wind = 3",
            "pass 1 = 0", "wind = 20", "pass 1 = 0", "wind = 0"));
        Runs.check("Promise 14 | Returns the wind of this hour. | all of it, also when stones have ground", Runs.join(winds,
            "addStone 9 = 0", "bring 0 60 60 = 0", "pass 12 = 56", "wind = 20", "groundIn 1 = 4", "wind = 20"));
    }

    private static void sackOn() {
        String title = "Promise 15 | Returns the sack on it; -1 without one. | ";
        Runs.check(title + "by turns, then lifted", Mills.rows(STRONG, Mills.of("addStone 2 = 0", "sackOn 0 = -1",
            "addStone 2 = 1", "sackOn 1 = -1", "bring 0 9 90 = 0", "bring 0 9 80 = 1", "bring 0 9 95 = 2", "setRule 1 = 0",
            "sackOn 0 = -1", "pass 1 = 2", "sackOn 0 = 1", "sackOn 1 = 0", "lift 0 = 1", "sackOn 0 = 1", "sackOn 1 = -1")));
        Runs.check(title + "the last of 16 on the last of 4", Mills.rows(STRONG, Mills.stones(2, 2, 2, 2),
            Mills.sacks(15, 9, 9), Mills.of("bring 0 9 10 = 15", "setRule 1 = 0", "setUntil 0 1 = 9", "setUntil 1 2 = 9",
                "setUntil 2 3 = 9", "setUntil 15 4 = 10", "sackOn 3 = -1", "pass 1 = 4", "sackOn 0 = 0", "sackOn 3 = 15")));
        Runs.check(title + "when it is ground", "addStone 4 = 0", "bring 0 4 9 = 0", "pass 1 = 3", "sackOn 0 = 0",
            "pass 1 = 1", "sackOn 0 = -1");
    }

    private static void sackOnNoSuchStone() {
        String title = "Promise 15 | Throws IndexOutOfBoundsException if there is no such stone | ";
        Runs.check(title + "of none", Mills.rows(Mills.sacks(2, 9, 9), Mills.refused("sackOn #", 0, -1, "IOOBE"),
            Mills.of("sackOn 3 = IOOBE", "sackOn 4 = IOOBE")));
        Runs.check(title + "of 1", Mills.rows(Mills.stones(9), Mills.of("sackOn 0 = -1"),
            Mills.refused("sackOn #", 0, 0, "IOOBE")));
        Runs.check(title + "of 2 at work", Mills.rows(Mills.BUSY, Mills.of("sackOn 0 = -1", "sackOn 1 = 2"),
            Mills.refused("sackOn #", 0, 1, "IOOBE"), Mills.of("sackOn 3 = IOOBE", "sackOn 4 = IOOBE")));
        Runs.check(title + "of 4", Mills.rows(Mills.stones(9, 9, 9, 9), Mills.of("sackOn 0 = -1", "sackOn 3 = -1"),
            Mills.refused("sackOn #", 0, 3, "IOOBE")));
    }

    private static void stoneOf() {
        String title = "Promise 16 | Returns the stone on which it lies; -1 if on none. | ";
        Runs.check(title + "not yet, stones 0 and 1, none for the third", Mills.rows(STRONG, Mills.stones(2, 2), Mills.of(
            "bring 0 9 90 = 0", "bring 0 9 80 = 1", "bring 0 9 95 = 2", "setRule 1 = 0", "stoneOf 0 = -1", "pass 1 = 2",
            "stoneOf 0 = 1", "stoneOf 1 = 0", "stoneOf 2 = -1", "lift 0 = 1", "stoneOf 0 = -1", "stoneOf 1 = 0")));
        Runs.check(title + "the last of 4", Mills.rows(STRONG, Mills.stones(2, 2, 2, 2), Mills.sacks(16, 9, 9),
            Mills.of("pass 1 = 4", "stoneOf 0 = 0", "stoneOf 3 = 3", "stoneOf 4 = -1", "stoneOf 15 = -1")));
        Runs.check(title + "when it is ground, and when it is taken off", Mills.rows(STRONG, Mills.stones(4), Mills.of(
            "setTakingOff 1 = false", "setRule 1 = 0", "bring 0 4 9 = 0", "pass 1 = 3", "stoneOf 0 = 0", "bring 0 3 8 = 1",
            "pass 1 = 3", "stoneOf 0 = -1", "stoneOf 1 = -1", "pass 1 = 1", "stoneOf 0 = -1", "groundAt 0 = 3")));
    }

    private static void leftOf() {
        Runs.check("Promise 17 | Returns how much of it is left. | 1 and 60, 1 left, none left", "addStone 5 = 0",
            "bring 0 10 7 = 0", "bring 1 60 200 = 1", "bring 1 1 200 = 2", "leftOf 0 = 10", "leftOf 1 = 60", "leftOf 2 = 1",
            "pass 1 = 4", "leftOf 0 = 6", "leftOf 1 = 60", "pass 1 = 5", "leftOf 0 = 1", "pass 1 = 1", "leftOf 0 = 0",
            "leftOf 1 = 60", "pass 60 = 61", "leftOf 0 = 0", "leftOf 1 = 0", "leftOf 2 = 0");
    }

    private static void untilOf() {
        Runs.check("Promise 18 | Returns the hour by which it should be ground. | 1 and 200, also when it is ground",
            "addStone 9 = 0", "bring 0 5 1 = 0", "bring 1 5 200 = 1", "untilOf 0 = 1", "untilOf 1 = 200", "pass 1 = 5",
            "untilOf 0 = 1", "setUntil 0 8 = 1", "untilOf 0 = 8", "untilOf 1 = 200", "setUntil 1 0 = IAE",
            "setUntil 1 201 = IAE", "untilOf 1 = 200");
    }

    private static void groundAt() {
        String title = "Promise 19 | Returns the hour at which it was ground; -1 if it is not. | ";
        Runs.check(title + "the hour 1 is the first", "addStone 5 = 0", "bring 0 4 9 = 0", "bring 1 5 9 = 1",
            "groundAt 0 = -1", "pass 1 = 4", "groundAt 0 = 1", "groundAt 1 = -1", "pass 1 = 4", "leftOf 1 = 1",
            "groundAt 1 = -1", "pass 1 = 1", "groundAt 1 = 3", "pass 60 = 0", "groundAt 0 = 1", "groundAt 1 = 3");
        Runs.check(title + "the last hour of a pass, and one in the middle", "addStone 5 = 0", "pass 10 = 0",
            "bring 0 4 9 = 0", "bring 0 5 9 = 1", "bring 0 5 9 = 2", "pass 3 = 9", "groundAt 0 = 11", "groundAt 1 = 13",
            "groundAt 2 = -1", "hour = 13");
    }

    private static void noSuchSack() {
        int promise = 16;
        for (String call : new String[] {"stoneOf #", "leftOf #", "untilOf #", "groundAt #"}) {
            String title = "Promise " + promise + " | Throws IndexOutOfBoundsException if there is no such sack | ";
            Runs.check(title + "of none", Mills.rows(Mills.stones(9), Mills.noSuchSack(call, 0)));
            Runs.check(title + "of 1", Mills.rows(Mills.sacks(1, 9, 9), Mills.noSuchSack(call, 1)));
            Runs.check(title + "of 4 at work", Mills.rows(Mills.BUSY, Mills.noSuchSack(call, 4)));
            Runs.check(title + "of 16", Mills.rows(Mills.sacks(16, 9, 9), Mills.noSuchSack(call, 16)));
            promise++;
        }
    }

    private static void ground() {
        Runs.check("Promise 20 | Returns how many sacks are ground. | none, one, both", "ground = 0", "addStone 5 = 0",
            "bring 0 4 9 = 0", "bring 1 5 9 = 1", "ground = 0", "pass 1 = 4", "ground = 1", "pass 1 = 4", "ground = 1",
            "pass 1 = 1", "ground = 2", "pass 60 = 0", "ground = 2", "bring 1 5 9 = 2", "ground = 2");
        Runs.check("Promise 20 | Returns how many sacks are ground. | 4 in one hour, all 16", Mills.rows(STRONG,
            Mills.stones(9, 9, 9, 9), Mills.sacks(16, 5, 9), Mills.of("pass 1 = 20", "ground = 4", "pass 2 = 40",
                "ground = 12", "pass 1 = 20", "ground = 16", "pass 1 = 0", "ground = 16")));
    }

    private static void changes() {
        String title = "Promise 21 | Returns how often a stone got a sack. | ";
        Runs.check(title + "none, 1, 2", "changes = 0", "addStone 5 = 0", "bring 0 4 9 = 0", "bring 1 5 9 = 1",
            "changes = 0", "pass 1 = 4", "changes = 1", "pass 1 = 4", "changes = 2", "pass 1 = 1", "changes = 2");
        Runs.check(title + "4 in one hour, all 16", Mills.rows(STRONG, Mills.stones(2, 2, 2, 2), Mills.sacks(16, 1, 9),
            Mills.of("pass 1 = 4", "changes = 4", "pass 60 = 12", "changes = 16", "pass 60 = 0", "changes = 16")));
        Runs.check(title + "the same sack again", Mills.rows(STRONG, Mills.stones(5), Mills.sacks(1, 60, 9),
            Mills.of("pass 1 = 4", "lift 0 = 0", "changes = 1", "pass 1 = 4", "changes = 2", "lift 0 = 0", "pass 1 = 4",
                "changes = 3")));
        Runs.check(title + "after taking off, and when it comes back", Mills.rows(STRONG, Mills.stones(5),
            Mills.of("setTakingOff 1 = false", "setRule 1 = 0", "bring 0 60 9 = 0", "pass 1 = 4", "bring 0 4 8 = 1",
                "pass 1 = 4", "changes = 2", "pass 1 = 4", "sackOn 0 = 0", "changes = 3")));
    }

    private static void changesNotCounted() {
        Runs.check("Promise 21 | Returns how often a stone got a sack. | not what would be, not what is taken off",
            Mills.rows(STRONG, Mills.stones(5, 5), Mills.sacks(2, 60, 9), Mills.of("groundIn 60 = 120", "lateWith 0 1 = 8",
                "willBeGroundAt 1 = 13", "bestRule = 0", "wouldBeInTime 5 200 = true", "changes = 0", "pass 2 = 18",
                "changes = 2", "lift 0 = 0", "lift 1 = 1", "changes = 2")));
    }
}
