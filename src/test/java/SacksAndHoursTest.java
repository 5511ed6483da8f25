/** Promises 6 to 9: sacks and hours. Each title tells the sentence, and behind the second bar the case of it. */
public final class SacksAndHoursTest {
    private static final String[] STRONG = Mills.winds(20);
    // Two sacks on two stones, with much left.
    private static final String[] TWO = Mills.rows(STRONG, Mills.stones(4, 3), Mills.sacks(2, 20, 50),
        Mills.of("pass 1 = 5"));

    public static void main(String[] args) {
        bringReturns();
        bringBaker();
        bringGrain();
        bringUntil();
        bringSeveralWrong();
        bringTooMany();
        lift();
        liftEach();
        liftForAnother();
        liftNoSuchSack();
        liftFromNone();
        setUntilReturns();
        setUntilTurns();
        setUntilOfAnySack();
        setUntilRefused();
        passHours();
        passReturns();
        passReturnsNothing();
        passInOneOrInMany();
        passRefused();
        Runs.end();
    }

    private static void bringReturns() {
        Runs.check("Promise 6 | Returns its number. | 0 to 15", Mills.rows(Mills.sacks(16, 9, 9), Mills.of("sacks = 16")));
        Runs.check("Promise 6 | Returns its number. | a refused one takes none", "bring 8 1 1 = IAE", "bring 0 1 1 = 0",
            "bring 0 0 1 = IAE", "bring 0 1 201 = IAE", "bring 0 1 1 = 1");
        Runs.check("Promise 6 | A baker brings a sack. | all is left, it lies on no stone and is not ground",
            "addStone 9 = 0", "bring 3 7 9 = 0", "leftOf 0 = 7", "leftFor 3 = 7", "untilOf 0 = 9", "stoneOf 0 = -1",
            "groundAt 0 = -1", "sackOn 0 = -1", "changes = 0", "ground = 0");
        Runs.check("Promise 6 | A baker brings a sack. | in a later hour, and for one that is by", "addStone 5 = 0",
            "pass 3 = 0", "bring 0 4 1 = 0", "stoneOf 0 = -1", "late = 0", "pass 1 = 4", "groundAt 0 = 4", "late = 3");
    }

    private static void bringBaker() {
        String[] rows = {};
        for (int baker = 0; baker < 8; baker++) {
            rows = Runs.join(rows, "bring " + baker + " " + (baker + 1) + " 9 = " + baker);
        }
        for (int baker = 0; baker < 8; baker++) {
            rows = Runs.join(rows, "leftFor " + baker + " = " + (baker + 1));
        }
        Runs.check("Promise 6 | baker: the baker | 0 to 7", rows);
        Runs.check("Promise 6 | Throws IllegalArgumentException if baker is not 0 to 7 | refused", Mills.rows(Mills.BUSY,
            Mills.refused("bring # 5 5", 0, 7, "IAE"), Mills.of("sacks = 4"), Mills.BUSY_GOES_ON));
    }

    private static void bringGrain() {
        Runs.check("Promise 6 | grain: how much grain | 1 and 60", Mills.rows(STRONG, Mills.stones(9),
            Mills.of("bring 0 1 9 = 0", "bring 0 60 9 = 1", "leftOf 0 = 1", "leftOf 1 = 60", "pass 1 = 1", "ground = 1",
                "pass 6 = 53", "leftOf 1 = 7", "pass 1 = 7", "groundAt 1 = 8")));
        Runs.check("Promise 6 | grain is not 1 to 60 | refused", Mills.rows(Mills.BUSY,
            Mills.refused("bring 0 # 5", 1, 60, "IAE"), Mills.of("sacks = 4"), Mills.BUSY_GOES_ON));
    }

    private static void bringUntil() {
        Runs.check("Promise 6 | until: the hour by which it should be ground | 1 and 200", "addStone 9 = 0",
            "bring 0 5 1 = 0", "bring 0 5 200 = 1", "untilOf 0 = 1", "untilOf 1 = 200", "spareOf 0 = 0", "spareOf 1 = 198");
        Runs.check("Promise 6 | or until is not 1 to 200 | refused", Mills.rows(Mills.BUSY,
            Mills.refused("bring 0 5 #", 1, 200, "IAE"), Mills.of("sacks = 4"), Mills.BUSY_GOES_ON));
    }

    private static void bringSeveralWrong() {
        Runs.check("Promise 6 | baker is not 0 to 7, grain is not 1 to 60, or until is not 1 to 200 | several",
            "bring 8 0 1 = IAE", "bring 8 1 201 = IAE", "bring 0 61 0 = IAE", "bring -1 61 201 = IAE", "sacks = 0");
    }

    private static void bringTooMany() {
        String title = "Promise 6 | Throws IllegalStateException if there are 16 | ";
        Runs.check(title + "not yet with 15", Mills.rows(Mills.sacks(15, 9, 9), Mills.of("bring 7 9 9 = 15")));
        Runs.check(title + "with 16", Mills.rows(Mills.sacks(16, 9, 9), Mills.of("bring 0 1 1 = ISE", "bring 7 60 200 = ISE",
            "sacks = 16", "leftOf 15 = 9", "leftFor 0 = 18", "leftFor 7 = 18")));
        Runs.check(title + "also when all are ground", Mills.rows(STRONG, Mills.stones(9, 9, 9, 9), Mills.sacks(16, 1, 9),
            Mills.of("pass 4 = 16", "ground = 16", "bring 0 1 1 = ISE", "sacks = 16", "leftFor 0 = 0")));
        Runs.check(title + "but wrong numbers are named first", Mills.rows(Mills.sacks(16, 9, 9),
            Mills.refused("bring # 5 5", 0, 7, "IAE"), Mills.refused("bring 0 # 5", 1, 60, "IAE"),
            Mills.refused("bring 0 5 #", 1, 200, "IAE")));
    }

    private static void lift() {
        String title = "Promise 7 | Takes a sack off its stone by hand; its grain stays as it is. | ";
        Runs.check(title + "one of two", Runs.join(TWO, "lift 1 = 1", "stoneOf 1 = -1", "sackOn 1 = -1", "leftOf 1 = 18",
            "groundAt 1 = -1", "sackOn 0 = 0", "stoneOf 0 = 0", "leftOf 0 = 17", "changes = 2", "hour = 1"));
        Runs.check(title + "and it is got again in the next hour", Runs.join(TWO, "lift 0 = 0", "pass 1 = 6",
            "stoneOf 0 = 0", "leftOf 0 = 14", "leftOf 1 = 15", "changes = 3", "pass 1 = 7"));
        Runs.check(title + "both, and got again", Runs.join(TWO, "lift 1 = 1", "lift 0 = 0", "sackOn 0 = -1",
            "sackOn 1 = -1", "pass 1 = 5", "stoneOf 0 = 0", "stoneOf 1 = 1", "changes = 4"));
        Runs.check(title + "with 1 left", Mills.rows(STRONG, Mills.stones(4), Mills.sacks(1, 4, 50), Mills.of("pass 1 = 3",
            "lift 0 = 0", "leftOf 0 = 1", "groundAt 0 = -1", "ground = 0", "placeOf 0 = 0", "pass 1 = 1", "groundAt 0 = 2",
            "changes = 2")));
        Runs.check(title + "with taking off allowed", Runs.join(TWO, "setTakingOff 1 = false", "lift 1 = 1",
            "sackOn 1 = -1", "pass 1 = 6", "sackOn 1 = 1", "changes = 3"));
    }

    private static void liftEach() {
        String[] rows = Mills.rows(STRONG, Mills.stones(2, 2, 2, 2), Mills.sacks(16, 20, 50), Mills.of("setUntil 15 1 = 50",
            "setRule 1 = 0", "pass 1 = 4"));
        Runs.check("Promise 7 | Returns the stone on which it lay. | 0 to 3", Runs.join(rows, "lift 2 = 3", "lift 15 = 0",
            "lift 0 = 1", "lift 1 = 2", "sackOn 0 = -1", "sackOn 1 = -1", "sackOn 2 = -1", "sackOn 3 = -1", "pass 1 = 4",
            "sackOn 0 = 15", "sackOn 3 = 2", "changes = 8"));
    }

    private static void liftForAnother() {
        Runs.check("Promise 7 | Takes a sack off its stone by hand | another is first and gets the stone",
            "addStone 4 = 0", "bring 0 20 50 = 0", "pass 1 = 3", "bring 1 20 10 = 1", "setRule 1 = 0", "pass 1 = 4",
            "stoneOf 0 = 0", "lift 0 = 0", "pass 1 = 3", "sackOn 0 = 1", "leftOf 0 = 13", "leftOf 1 = 17", "lift 0 = ISE");
    }

    private static void liftNoSuchSack() {
        String title = "Promise 7 | Throws IndexOutOfBoundsException if there is no such sack | ";
        Runs.check(title + "without sacks", Mills.rows(Mills.stones(4), Mills.noSuchSack("lift #", 0)));
        Runs.check(title + "with 4", Mills.rows(Mills.BUSY, Mills.noSuchSack("lift #", 4), Mills.BUSY_GOES_ON));
        Runs.check(title + "with 16", Mills.rows(Mills.sacks(16, 5, 5), Mills.noSuchSack("lift #", 16)));
    }

    private static void liftFromNone() {
        String title = "Promise 7 | Throws IllegalStateException if it lies on none | ";
        Runs.check(title + "without stones", "bring 0 5 9 = 0", "lift 0 = ISE");
        Runs.check(title + "before an hour went by", "addStone 9 = 0", "bring 0 5 9 = 0", "lift 0 = ISE", "pass 1 = 5");
        Runs.check(title + "a ground one and one that waits", Mills.rows(Mills.BUSY, Mills.of("lift 0 = ISE",
            "lift 1 = ISE", "lift 3 = ISE"), Mills.BUSY_GOES_ON));
        Runs.check(title + "one that was lifted", Runs.join(TWO, "lift 1 = 1", "lift 1 = ISE", "lift 0 = 0", "lift 0 = ISE"));
        Runs.check(title + "one that was taken off", Mills.rows(STRONG, Mills.stones(4), Mills.of("setRule 1 = 0",
            "setTakingOff 1 = false", "bring 0 20 9 = 0", "pass 1 = 3", "bring 0 20 8 = 1", "pass 1 = 3", "lift 0 = ISE",
            "lift 1 = 0")));
    }

    private static void setUntilReturns() {
        Runs.check("Promise 8 | Returns the one before. | 1, 200 and the same again", "bring 0 5 9 = 0",
            "bring 0 5 19 = 1", "setUntil 1 1 = 19", "untilOf 1 = 1", "untilOf 0 = 9", "setUntil 1 200 = 1",
            "setUntil 1 200 = 200", "setUntil 1 201 = IAE", "setUntil 1 7 = 200", "untilOf 1 = 7", "untilOf 0 = 9");
        Runs.check("Promise 8 | Gives a sack another hour. | the first and the last of 16", Mills.rows(
            Mills.sacks(16, 5, 50), Mills.of("setUntil 0 1 = 50", "setUntil 15 200 = 50", "untilOf 0 = 1", "untilOf 1 = 50",
                "untilOf 14 = 50", "untilOf 15 = 200")));
    }

    private static void setUntilTurns() {
        Runs.check("Promise 8 | Gives a sack another hour. | just behind another, as the other, just ahead",
            "bring 0 5 9 = 0", "bring 0 5 19 = 1", "setRule 1 = 0", "first = 0", "setUntil 0 20 = 9", "first = 1",
            "setUntil 0 19 = 20", "first = 0", "setUntil 1 18 = 19", "first = 1");
        Runs.check("Promise 8 | Gives a sack another hour. | on a stone, it is wanted no more", Mills.rows(STRONG,
            Mills.stones(4), Mills.of("setRule 1 = 0", "setTakingOff 1 = false", "bring 0 20 9 = 0", "bring 0 20 10 = 1",
                "pass 1 = 3", "setUntil 0 10 = 9", "pass 1 = 4", "setUntil 0 11 = 10", "sackOn 0 = 0", "pass 1 = 3",
                "sackOn 0 = 1", "stoneOf 0 = -1")));
    }

    private static void setUntilOfAnySack() {
        Runs.check("Promise 8 | Gives a sack another hour. | a ground one too", Mills.rows(Mills.stones(9), Mills.of(
            "bring 0 5 9 = 0", "pass 4 = 5", "late = 0", "setUntil 0 1 = 9", "groundAt 0 = 1", "late = 0",
            "bring 0 5 9 = 1", "pass 1 = 5", "setUntil 1 2 = 9", "late = 3", "setUntil 1 5 = 2", "late = 0")));
        Runs.check("Promise 8 | Gives a sack another hour. | one that is by", "pass 60 = 0", "bring 0 5 9 = 0",
            "setUntil 0 1 = 9", "setUntil 0 60 = 1", "late = 0");
    }

    private static void setUntilRefused() {
        String noSack = "Promise 8 | Throws IndexOutOfBoundsException if there is no such sack | ";
        Runs.check(noSack + "without sacks", Mills.noSuchSack("setUntil # 5", 0));
        Runs.check(noSack + "with 4", Mills.rows(Mills.BUSY, Mills.noSuchSack("setUntil # 5", 4), Mills.BUSY_GOES_ON));
        Runs.check(noSack + "with 16", Mills.rows(Mills.sacks(16, 5, 5), Mills.noSuchSack("setUntil # 5", 16)));
        Runs.check(noSack + "also with a wrong hour", Mills.rows(Mills.sacks(2, 5, 5), Mills.noSuchSack("setUntil # 0", 2),
            Mills.noSuchSack("setUntil # 201", 2)));
        String hour = "Promise 8 | Throws IllegalArgumentException if until is not 1 to 200 | ";
        Runs.check(hour + "1 and 200 are", "bring 0 5 5 = 0", "setUntil 0 1 = 5", "setUntil 0 200 = 1");
        Runs.check(hour + "refused, for sacks ground, waiting and on a stone", Mills.rows(Mills.BUSY,
            Mills.refused("setUntil 0 #", 1, 200, "IAE"), Mills.refused("setUntil 1 #", 1, 200, "IAE"),
            Mills.refused("setUntil 2 #", 1, 200, "IAE"), Mills.BUSY_GOES_ON));
    }

    private static void passHours() {
        String title = "Promise 9 | Lets hours go by. | ";
        Runs.check(title + "1 and 60", "pass 1 = 0", "hour = 1", "pass 60 = 0", "hour = 61", "pass 1 = 0", "hour = 62");
        Runs.check(title + "hour by hour", "addStone 4 = 0", "bring 0 10 50 = 0", "pass 1 = 3", "leftOf 0 = 7",
            "pass 1 = 4", "leftOf 0 = 3", "sackOn 0 = 0", "pass 1 = 3", "groundAt 0 = 3", "stoneOf 0 = -1",
            "sackOn 0 = -1", "pass 1 = 0", "hour = 4", "changes = 1");
        Runs.check(title + "they go by when all is ground, too", Mills.rows(STRONG, Mills.stones(9), Mills.of(
            "bring 0 3 9 = 0", "pass 60 = 3", "hour = 60", "groundAt 0 = 1", "pass 1 = 0", "hour = 61", "bring 0 3 9 = 1",
            "pass 60 = 3", "hour = 121", "groundAt 1 = 62")));
    }

    private static void passReturns() {
        String title = "Promise 9 | Returns how much is ground in them. | ";
        Runs.check(title + "not what was ground before", "addStone 4 = 0", "bring 0 10 50 = 0", "bring 0 60 50 = 1",
            "pass 3 = 10", "pass 2 = 7", "pass 60 = 53", "hour = 65", "groundAt 1 = 19", "pass 60 = 0");
        Runs.check(title + "by all stones", Mills.rows(STRONG, Mills.stones(1, 2, 3, 4), Mills.sacks(4, 20, 50),
            Mills.of("pass 1 = 6", "pass 2 = 20")));
        Runs.check(title + "the most that can be", Mills.rows(STRONG, Mills.stones(9, 9, 9, 9), Mills.sacks(16, 60, 50),
            Mills.of("pass 1 = 20", "pass 11 = 220", "pass 60 = 720", "ground = 16")));
        Runs.check(title + "the most that can be, in one pass", Mills.rows(STRONG, Mills.stones(9, 9, 9, 9),
            Mills.sacks(16, 60, 50), Mills.of("pass 60 = 960", "ground = 16", "meanLeft = 0.0")));
    }

    private static void passReturnsNothing() {
        String title = "Promise 9 | Returns how much is ground in them. | nothing ";
        Runs.check(title + "without stones", "bring 0 10 50 = 0", "setTakingOff 1 = false", "pass 1 = 0", "pass 60 = 0",
            "hour = 61", "leftOf 0 = 10", "changes = 0");
        Runs.check(title + "without sacks", "addStone 4 = 0", "setTakingOff 1 = false", "pass 1 = 0", "pass 60 = 0",
            "hour = 61", "sackOn 0 = -1", "changes = 0");
        Runs.check(title + "without wind", Mills.rows(Mills.winds(0), Mills.stones(9), Mills.sacks(1, 1, 9),
            Mills.of("pass 1 = 0", "pass 60 = 0", "leftOf 0 = 1", "sackOn 0 = 0", "changes = 1")));
        Runs.check(title + "when all are ground", Mills.rows(Mills.stones(9), Mills.sacks(2, 1, 9),
            Mills.of("pass 2 = 2", "ground = 2", "pass 1 = 0", "pass 60 = 0", "hour = 63")));
    }

    private static void passInOneOrInMany() {
        String[] begun = Mills.rows(Mills.BUSY, Mills.of("bring 0 60 3 = 4", "bring 1 60 40 = 5", "bring 1 7 40 = 6"));
        for (int hours : new int[] {2, 9, 10, 11, 21, 22, 23, 59, 60}) {
            String[] one = begun;
            for (int hour = 0; hour < hours; hour++) {
                // What such an hour grinds is told by other runs.
                one = Runs.join(one, "pass 1 =");
            }
            String[] whole = Runs.join(begun, "pass " + hours + " =");
            Runs.same("Promise 9 | hours: how many | " + hours + " as one by one",
                Calls.snapshot(Runs.after(whole, whole.length)), Calls.snapshot(Runs.after(one, one.length)));
        }
    }

    private static void passRefused() {
        String title = "Promise 9 | Throws IllegalArgumentException if hours is not 1 to 60 | ";
        Runs.check(title + "1 and 60 are", "pass 1 = 0", "pass 60 = 0");
        Runs.check(title + "refused on a new mill", Mills.rows(Mills.refused("pass #", 1, 60, "IAE"), Mills.of("hour = 0")));
        Runs.check(title + "refused in the middle of the work", Mills.rows(Mills.BUSY, Mills.refused("pass #", 1, 60, "IAE"),
            Mills.of("hour = 2"), Mills.BUSY_GOES_ON));
    }
}
