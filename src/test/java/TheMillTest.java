/** Promises 1 to 5: the mill. Each title tells the sentence, and behind the second bar the case of it. */
public final class TheMillTest {
    private static final String[] STRONG = Mills.winds(20);

    public static void main(String[] args) {
        aNewObject();
        aNewObjectHasNone();
        addStoneReturns();
        addStoneTooMany();
        addStoneSize();
        setWindReturns();
        setWindFromNowOn();
        setWindOfEachHour();
        setWindRefused();
        setRuleReturns();
        setRuleFromNowOn();
        setRuleRefused();
        setTakingOffReturns();
        setTakingOffFromNowOn();
        Runs.end();
    }

    private static void aNewObject() {
        String title = "Promise 1 | Creates a mill without stones and sacks, at the hour 0. | ";
        Runs.check(title + "what there is", "hour = 0", "stones = 0", "sacks = 0", "rule = 0", "wind = 5", "ground = 0",
            "changes = 0", "first = -1", "late = 0", "bestRule = 0", "meanLeft = 0.0", "setTakingOff 0 = false");
        Runs.check(title + "what would be", "groundIn 1 = 0", "groundIn 60 = 0", "lateWith 0 0 = 0", "lateWith 2 1 = 0",
            "wouldBeInTime 1 200 = false", "leftFor 0 = 0", "leftFor 7 = 0");
        Runs.check(title + "hours go by all the same", "pass 60 = 0", "hour = 60", "pass 60 = 0", "hour = 120",
            "changes = 0", "first = -1");
    }

    private static void aNewObjectHasNone() {
        String title = "Promise 1 | Creates a mill without stones and sacks | ";
        Runs.check(title + "no stone 0", Mills.refused("sackOn #", 0, -1, "IOOBE"));
        for (String call : new String[] {"lift #", "setUntil # 5", "stoneOf #", "leftOf #", "untilOf #", "groundAt #",
            "placeOf #", "willBeGroundAt #", "spareOf #"}) {
            Runs.check(title + "no sack 0, " + call, Mills.noSuchSack(call, 0));
        }
    }

    private static void addStoneReturns() {
        Runs.check("Promise 2 | Returns its number. | 0 to 3", "addStone 5 = 0", "stones = 1", "addStone 5 = 1",
            "stones = 2", "addStone 5 = 2", "stones = 3", "addStone 5 = 3", "stones = 4");
        Runs.check("Promise 2 | Returns its number. | a refused one takes none", "addStone 0 = IAE", "addStone 1 = 0",
            "addStone 10 = IAE", "addStone 9 = 1");
        Runs.check("Promise 2 | Returns its number. | in later hours, and it has no sack till the next", Mills.rows(STRONG,
            Mills.stones(4), Mills.sacks(2, 20, 50), Mills.of("pass 1 = 3", "addStone 9 = 1", "sackOn 1 = -1",
                "stoneOf 1 = -1", "changes = 1", "pass 1 = 12", "sackOn 1 = 1", "changes = 2")));
    }

    private static void addStoneTooMany() {
        String title = "Promise 2 | Throws IllegalStateException if there are 4 | ";
        Runs.check(title + "not yet with 3", Mills.rows(Mills.stones(1, 1, 1), Mills.of("addStone 1 = 3")));
        Runs.check(title + "with 4", Mills.rows(Mills.stones(1, 1, 1, 1), Mills.of("addStone 1 = ISE", "addStone 9 = ISE",
            "stones = 4", "sackOn 4 = IOOBE")));
        Runs.check(title + "with 4 at work", Mills.rows(STRONG, Mills.stones(2, 2, 2, 2), Mills.sacks(4, 20, 50),
            Mills.of("pass 1 = 4", "addStone 9 = ISE", "sackOn 3 = 3", "pass 1 = 8")));
        Runs.check(title + "but a wrong size is named first", Mills.rows(Mills.stones(1, 1, 1, 1),
            Mills.refused("addStone #", 1, 9, "IAE")));
    }

    private static void addStoneSize() {
        for (int size = 1; size <= 9; size++) {
            Runs.check("Promise 2 | size: the size of a new stone | " + size, Mills.rows(STRONG, Mills.of(
                "addStone " + size + " = 0", "bring 0 60 200 = 0", "pass 1 = " + (size - 1), "pass 1 = " + size)));
        }
        Runs.check("Promise 2 | size: the size of a new stone | each its own", Mills.rows(STRONG, Mills.stones(1, 9, 2, 3),
            Mills.sacks(4, 60, 200), Mills.of("pass 1 = 11", "leftOf 0 = 60", "leftOf 1 = 52", "leftOf 2 = 59",
                "leftOf 3 = 58", "pass 1 = 15", "leftOf 0 = 59", "leftOf 1 = 43", "leftOf 2 = 57", "leftOf 3 = 55")));
        String title = "Promise 2 | Throws IllegalArgumentException if size is not 1 to 9 | ";
        Runs.check(title + "1 and 9 are", "addStone 1 = 0", "addStone 9 = 1");
        Runs.check(title + "on a new mill", Mills.rows(Mills.refused("addStone #", 1, 9, "IAE"), Mills.of("stones = 0",
            "sackOn 0 = IOOBE")));
        Runs.check(title + "in the middle of the work", Mills.rows(Mills.BUSY, Mills.refused("addStone #", 1, 9, "IAE"),
            Mills.of("stones = 2"), Mills.BUSY_GOES_ON));
    }

    private static void setWindReturns() {
        String[] rows = {};
        for (int number = 0; number < 12; number++) {
            rows = Runs.join(rows, "setWind " + number + " " + (number + 6) + " = 5");
        }
        for (int number = 0; number < 12; number++) {
            rows = Runs.join(rows, "setWind " + number + " 0 = " + (number + 6));
        }
        Runs.check("Promise 3 | Returns what it was. | each number its own", rows);
        Runs.check("Promise 3 | Returns what it was. | 0, 20 and the same again", "setWind 3 0 = 5", "setWind 3 0 = 0",
            "setWind 3 20 = 0", "setWind 3 20 = 20", "setWind 3 21 = IAE", "setWind 3 -1 = IAE", "setWind 3 5 = 20");
    }

    private static void setWindFromNowOn() {
        String title = "Promise 3 | wind: what it is from now on | ";
        Runs.check(title + "this hour's at once, others later", "setWind 0 9 = 5", "wind = 9", "setWind 1 3 = 5",
            "wind = 9", "setWind 11 0 = 5", "wind = 9", "pass 1 = 0", "wind = 3", "pass 10 = 0", "wind = 0");
        Runs.check(title + "at the hours 11 and 12", "pass 11 = 0", "setWind 0 9 = 5", "wind = 5", "setWind 11 8 = 5",
            "wind = 8", "pass 1 = 0", "wind = 9", "setWind 11 7 = 8", "wind = 9", "setWind 0 6 = 9", "wind = 6");
        Runs.check(title + "not for the hours that went by", "addStone 9 = 0", "bring 0 60 50 = 0", "pass 1 = 5",
            "setWind 0 20 = 5", "leftOf 0 = 55", "pass 12 = 55", "groundAt 0 = 12");
        Runs.check(title + "as it grinds", "addStone 9 = 0", "bring 0 60 50 = 0", "pass 1 = 5", "setWind 1 0 = 5",
            "setWind 2 20 = 5", "setWind 3 1 = 5", "pass 1 = 0", "pass 1 = 9", "pass 1 = 1");
    }

    private static void setWindOfEachHour() {
        String[] rows = {"addStone 9 = 0", "bring 0 60 200 = 0"};
        for (int number = 0; number < 12; number++) {
            rows = Runs.join(rows, "setWind " + number + " " + number + " = 5");
        }
        int[] ground = {0, 1, 2, 3, 4, 5, 6, 7, 8, 9, 9, 6, 0};
        for (int hour = 0; hour < ground.length; hour++) {
            rows = Runs.join(rows, "wind = " + hour % 12, "pass 1 = " + ground[hour]);
        }
        Runs.check("Promise 3 | number: which number of the wind | each for its hour", Runs.join(rows, "wind = 1",
            "groundAt 0 = 12"));
    }

    private static void setWindRefused() {
        String number = "Promise 3 | Throws IndexOutOfBoundsException if number is not 0 to 11 | ";
        Runs.check(number + "0 and 11 are", "setWind 0 5 = 5", "setWind 11 5 = 5");
        Runs.check(number + "refused", Mills.rows(Mills.BUSY, Mills.refused("setWind # 5", 0, 11, "IOOBE"),
            Mills.BUSY_GOES_ON));
        Runs.check(number + "also with a wrong wind", Mills.rows(Mills.refused("setWind # -1", 0, 11, "IOOBE"),
            Mills.refused("setWind # 21", 0, 11, "IOOBE")));
        String wind = "Promise 3 | Throws IllegalArgumentException if wind is not 0 to 20 | ";
        Runs.check(wind + "0 and 20 are", "setWind 0 0 = 5", "setWind 0 20 = 0", "setWind 11 0 = 5", "setWind 11 20 = 0");
        Runs.check(wind + "refused", Mills.rows(Mills.BUSY, Mills.refused("setWind 2 #", 0, 20, "IAE"),
            Mills.refused("setWind 0 #", 0, 20, "IAE"), Mills.refused("setWind 11 #", 0, 20, "IAE"), Mills.BUSY_GOES_ON));
    }

    private static void setRuleReturns() {
        Runs.check("Promise 4 | Returns the one before. | each after each, and the same again", "setRule 0 = 0",
            "setRule 1 = 0", "setRule 1 = 1", "setRule 2 = 1", "setRule 2 = 2", "setRule 0 = 2", "setRule 2 = 0",
            "setRule 1 = 2", "setRule 0 = 1", "rule = 0");
    }

    private static void setRuleFromNowOn() {
        String[] rows = {"bring 0 30 90 = 0", "bring 0 30 80 = 1", "bring 0 20 85 = 2"};
        Runs.check("Promise 4 | rule: the rule from now on | asked at once", Runs.join(rows, "first = 0", "setRule 1 = 0",
            "first = 1", "setRule 2 = 1", "first = 2", "setRule 0 = 2", "first = 0"));
        Runs.check("Promise 4 | rule: the rule from now on | from the next hour", Mills.rows(STRONG, Mills.stones(4), rows,
            Mills.of("setTakingOff 1 = false", "pass 1 = 3", "sackOn 0 = 0", "setRule 1 = 0", "sackOn 0 = 0", "pass 1 = 3",
                "sackOn 0 = 1", "setRule 2 = 1", "sackOn 0 = 1", "pass 1 = 3", "sackOn 0 = 2", "setRule 0 = 2",
                "pass 1 = 3", "sackOn 0 = 0")));
    }

    private static void setRuleRefused() {
        String title = "Promise 4 | Throws IllegalArgumentException if rule is not 0 to 2 | ";
        Runs.check(title + "0 and 2 are", "setRule 2 = 0", "setRule 0 = 2");
        Runs.check(title + "refused", Mills.rows(Mills.BUSY, Mills.refused("setRule #", 0, 2, "IAE"), Mills.of("rule = 1"),
            Mills.BUSY_GOES_ON));
    }

    private static void setTakingOffReturns() {
        Runs.check("Promise 5 | Returns whether it was. | each after each", "setTakingOff 0 = false",
            "setTakingOff 0 = false", "setTakingOff 1 = false", "setTakingOff 1 = true", "setTakingOff 0 = true",
            "setTakingOff 1 = false");
    }

    private static void setTakingOffFromNowOn() {
        String[] rows = Mills.rows(STRONG, Mills.of("addStone 4 = 0", "setRule 1 = 0", "bring 0 30 90 = 0", "pass 1 = 3",
            "bring 0 30 80 = 1"));
        String title = "Promise 5 | isAllowed: whether taking off is allowed from now on | ";
        Runs.check(title + "not before the next hour", Runs.join(rows, "setTakingOff 1 = false", "sackOn 0 = 0",
            "stoneOf 0 = 0", "changes = 1", "pass 1 = 3", "sackOn 0 = 1", "stoneOf 0 = -1", "changes = 2"));
        Runs.check(title + "not if set back before it", Runs.join(rows, "setTakingOff 1 = false", "setTakingOff 0 = true",
            "pass 1 = 4", "sackOn 0 = 0", "changes = 1"));
        Runs.check(title + "no more", Runs.join(rows, "setTakingOff 1 = false", "pass 1 = 3", "setTakingOff 0 = true",
            "setUntil 0 1 = 90", "first = 0", "pass 1 = 4", "sackOn 0 = 1"));
    }
}
