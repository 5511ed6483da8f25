import java.util.Arrays;

/** Promises 26 to 33: what would be. Each title tells the sentence, and behind the second bar the case of it. */
public final class WhatWouldBeTest {
    private static final String[] STRONG = Mills.winds(20);
    // Only the hours 7, 19, .. 199 have wind: its 17th hour is the last of the 200 from the hour 0.
    private static final String[] WIND_AT_7 = Mills.rows(Mills.windOnlyAt(7), Mills.stones(9));
    // Only the hours 8, 20, .. 200 have wind: its 17th hour is the first behind the 200 from the hour 0.
    private static final String[] WIND_AT_8 = Mills.rows(Mills.windOnlyAt(8), Mills.stones(9));
    private static final String[] FULL = Mills.rows(STRONG, Mills.stones(9, 9, 9, 9), Mills.sacks(16, 60, 200));

    public static void main(String[] args) {
        nothingIsChanged();
        willBeGroundAt();
        willBeGroundAsItWas();
        willBeGroundWithin200();
        willBeGroundWithin200FromNow();
        spareOf();
        spareOfWithin200();
        noSuchSack();
        lateWith();
        lateWithAsGiven();
        lateWithNotGround();
        lateWithin200();
        bestRule();
        bestRuleOfSeveral();
        bestRuleByTakingOff();
        wouldBeInTime();
        wouldBeInTimeAtTheLastHours();
        wouldBeInTimeAmongOthers();
        wouldBeInTimeOf16();
        wouldBeInTimeRefused();
        groundIn();
        groundInRefused();
        meanLeft();
        meanLeftOfAll();
        Runs.end();
    }

    // Runs.check compares a snapshot from before with one from after each question, too.
    private static void nothingIsChanged() {
        String[][] questions = {{"26", "willBeGroundAt 0 = 2", "willBeGroundAt 1 = 8", "willBeGroundAt 2 = 14",
            "willBeGroundAt 3 = 10"}, {"27", "spareOf 0 = -1", "spareOf 1 = 1", "spareOf 2 = -9", "spareOf 3 = -1"},
            {"28", "lateWith 0 0 = 11", "lateWith 1 1 = 11", "lateWith 2 1 = 11", "rule = 1"}, {"29", "bestRule = 0",
            "rule = 1"}, {"30", "wouldBeInTime 3 3 = true", "wouldBeInTime 3 2 = false", "sacks = 4", "leftFor 0 = 0"},
            {"31", "groundIn 1 = 5", "groundIn 60 = 51", "hour = 2"}};
        for (String[] asked : questions) {
            String[] rows = Arrays.copyOfRange(asked, 1, asked.length);
            Runs.check("Promise " + asked[0] + " | (nothing is changed) | asked twice, then it goes on", Mills.rows(
                Mills.BUSY, rows, rows, Mills.BUSY_GOES_ON, Mills.of("setTakingOff 0 = true")));
        }
    }

    private static void willBeGroundAt() {
        String title = "Promise 26 | Returns the hour at which it is ground, if nothing else is done: | ";
        Runs.check(title + "by the rule as it is now", "addStone 4 = 0", "bring 0 10 50 = 0", "bring 0 3 1 = 1",
            "willBeGroundAt 0 = 3", "willBeGroundAt 1 = 4", "setRule 1 = 0", "willBeGroundAt 0 = 4",
            "willBeGroundAt 1 = 1", "setRule 0 = 1", "pass 2 = 7", "willBeGroundAt 0 = 3", "willBeGroundAt 1 = 4");
        Runs.check(title + "taking off or not as it is now", "addStone 4 = 0", "bring 0 10 50 = 0", "pass 1 = 3",
            "bring 0 3 1 = 1", "setRule 1 = 0", "willBeGroundAt 0 = 3", "willBeGroundAt 1 = 4", "setTakingOff 1 = false",
            "willBeGroundAt 0 = 4", "willBeGroundAt 1 = 2");
        Runs.check(title + "in the next hour", "addStone 9 = 0", "bring 0 1 1 = 0", "willBeGroundAt 0 = 1", "pass 1 = 1",
            "willBeGroundAt 0 = 1");
        // Each sack takes a stone for 13 hours, 4 + 11 * 5 + 1, and there are four sacks for each stone.
        Runs.check(title + "the last of 16", Mills.rows(STRONG, Mills.stones(5, 5, 5, 5), Mills.sacks(16, 60, 200),
            Mills.of("willBeGroundAt 0 = 13", "willBeGroundAt 4 = 26", "willBeGroundAt 15 = 52", "pass 60 = 960",
                "groundAt 0 = 13", "groundAt 15 = 52")));
        Runs.check("Promise 26 | -1 if not by then | without a stone, without wind", "bring 0 1 1 = 0",
            "willBeGroundAt 0 = -1", "addStone 1 = 0", "willBeGroundAt 0 = 2");
        Runs.check("Promise 26 | -1 if not by then | without wind", Mills.rows(Mills.winds(0), Mills.stones(9),
            Mills.sacks(1, 1, 9), Mills.of("willBeGroundAt 0 = -1", "setWind 11 1 = 0", "willBeGroundAt 0 = 12")));
    }

    private static void willBeGroundAsItWas() {
        Runs.check("Promise 26 | or as it was; | at once, and 201 hours later", "addStone 4 = 0", "bring 0 10 50 = 0",
            "bring 0 3 1 = 1", "pass 3 = 10", "willBeGroundAt 0 = 3", "willBeGroundAt 1 = 4", "pass 60 = 3",
            "willBeGroundAt 0 = 3", "willBeGroundAt 1 = 4", "pass 60 = 0", "pass 60 = 0", "pass 20 = 0", "hour = 203",
            "willBeGroundAt 0 = 3", "pass 1 = 0", "willBeGroundAt 0 = 3", "pass 60 = 0", "willBeGroundAt 0 = 3",
            "willBeGroundAt 1 = 4");
    }

    private static void willBeGroundWithin200() {
        Runs.check("Promise 26 | within 200 hours from now, | at the 200th hour from 0", Runs.join(WIND_AT_7,
            "bring 0 17 200 = 0", "willBeGroundAt 0 = 200", "pass 7 = 0", "willBeGroundAt 0 = 200", "pass 1 = 1",
            "willBeGroundAt 0 = 200"));
        Runs.check("Promise 26 | -1 if not by then | at the 201st hour from 0", Runs.join(WIND_AT_8, "bring 0 17 200 = 0",
            "willBeGroundAt 0 = -1", "pass 1 = 0", "willBeGroundAt 0 = 201"));
    }

    private static void willBeGroundWithin200FromNow() {
        Runs.check("Promise 26 | within 200 hours from now, | at the 200th hour from 12", Runs.join(WIND_AT_7,
            "pass 12 = 0", "bring 0 17 200 = 0", "willBeGroundAt 0 = 212", "spareOf 0 = -12", "lateWith 0 0 = 12"));
        Runs.check("Promise 26 | -1 if not by then | at the 201st hour from 12", Runs.join(WIND_AT_8, "pass 12 = 0",
            "bring 0 17 200 = 0", "willBeGroundAt 0 = -1", "spareOf 0 = -999", "lateWith 0 0 = 200", "pass 1 = 0",
            "willBeGroundAt 0 = 213", "spareOf 0 = -13", "lateWith 0 0 = 13"));
        Runs.check("Promise 26 | within 200 hours from now, | the hours 199 and 200 from where it is ground", Runs.join(
            WIND_AT_7, "bring 0 18 200 = 0", "pass 11 = 1", "willBeGroundAt 0 = -1", "pass 1 = 0",
            "willBeGroundAt 0 = 212", "pass 1 = 0", "willBeGroundAt 0 = 212"));
    }

    private static void spareOf() {
        String title = "Promise 27 | Returns by how many hours it will be ahead of its hour, | ";
        Runs.check(title + "ahead, at it, late", "addStone 4 = 0", "bring 0 10 50 = 0", "bring 0 3 1 = 1", "spareOf 0 = 47",
            "spareOf 1 = -3", "setUntil 1 3 = 1", "spareOf 1 = -1", "setUntil 1 4 = 3", "spareOf 1 = 0",
            "setUntil 1 5 = 4", "spareOf 1 = 1");
        Runs.check(title + "as it was", "addStone 4 = 0", "bring 0 10 50 = 0", "bring 0 3 4 = 1", "pass 60 = 13",
            "spareOf 0 = 47", "spareOf 1 = 0", "setUntil 0 3 = 50", "spareOf 0 = 0", "setUntil 0 1 = 3", "spareOf 0 = -2",
            "pass 60 = 0", "pass 60 = 0", "pass 60 = 0", "spareOf 0 = -2", "spareOf 1 = 0");
        Runs.check(title + "the most", "addStone 2 = 0", "bring 0 1 200 = 0", "spareOf 0 = 199", "pass 1 = 1",
            "spareOf 0 = 199");
        Runs.check(title + "by the rule and taking off as they are now", "addStone 4 = 0", "bring 0 10 50 = 0",
            "pass 1 = 3", "bring 0 3 2 = 1", "setRule 1 = 0", "spareOf 1 = -2", "setTakingOff 1 = false", "spareOf 1 = 0");
    }

    private static void spareOfWithin200() {
        Runs.check("Promise 27 | less than 0 if it is late; | at the 200th hour", Runs.join(WIND_AT_7,
            "bring 0 17 200 = 0", "spareOf 0 = 0", "setUntil 0 199 = 200", "spareOf 0 = -1", "setUntil 0 1 = 199",
            "spareOf 0 = -199"));
        Runs.check("Promise 27 | -999 if it is not ground within 200 hours | at the 201st hour", Runs.join(WIND_AT_8,
            "bring 0 17 200 = 0", "spareOf 0 = -999", "setUntil 0 1 = 200", "spareOf 0 = -999", "pass 1 = 0",
            "spareOf 0 = -200"));
        Runs.check("Promise 27 | -999 if it is not ground within 200 hours | never", "bring 0 1 1 = 0", "spareOf 0 = -999");
        Runs.check("Promise 27 | less than 0 if it is late; | by more than 999", lateBy999());
    }

    /** At the hour 1020 a sack for the hour 1 is brought, so it is late by far more than is told for one never ground. */
    private static String[] lateBy999() {
        String[] rows = {"addStone 9 = 0"};
        for (int call = 0; call < 17; call++) {
            rows = Runs.join(rows, "pass 60 = 0");
        }
        return Runs.join(rows, "hour = 1020", "bring 0 3 1 = 0", "spareOf 0 = -1020", "lateWith 0 0 = 1020", "pass 1 = 3",
            "spareOf 0 = -1020", "late = 1020");
    }

    private static void noSuchSack() {
        int promise = 26;
        for (String call : new String[] {"willBeGroundAt #", "spareOf #"}) {
            String title = "Promise " + promise + " | Throws IndexOutOfBoundsException if there is no such sack | ";
            Runs.check(title + "of none", Mills.rows(Mills.stones(9), Mills.noSuchSack(call, 0)));
            Runs.check(title + "of 1", Mills.rows(Mills.sacks(1, 9, 9), Mills.noSuchSack(call, 1)));
            Runs.check(title + "of 4 at work", Mills.rows(Mills.BUSY, Mills.noSuchSack(call, 4), Mills.BUSY_GOES_ON));
            Runs.check(title + "of 16", Mills.rows(Mills.sacks(16, 9, 9), Mills.noSuchSack(call, 16)));
            promise++;
        }
        // wouldBeInTime tries with one sack more than there is.
        Runs.check("Promise 26 | if there is no such sack | nor one that was only asked about", "addStone 9 = 0",
            "bring 0 5 9 = 0", "wouldBeInTime 5 9 = true", "willBeGroundAt 1 = IOOBE", "spareOf 1 = IOOBE");
    }

    private static void lateWith() {
        String title = "Promise 28 | Returns how many hours all sacks would be late, added, | ";
        Runs.check(title + "none without sacks", "lateWith 0 0 = 0", "lateWith 0 1 = 0", "lateWith 1 0 = 0",
            "lateWith 1 1 = 0", "lateWith 2 0 = 0", "lateWith 2 1 = 0");
        Runs.check(title + "ahead, at the hour, late", "addStone 4 = 0", "bring 0 3 2 = 0", "lateWith 0 0 = 0",
            "setUntil 0 1 = 2", "lateWith 0 0 = 0", "bring 0 3 1 = 1", "lateWith 0 0 = 1");
        Runs.check(title + "those that were ground too", "addStone 4 = 0", "bring 0 20 1 = 0", "bring 0 3 5 = 1",
            "setRule 2 = 0", "lateWith 0 0 = 7", "lateWith 1 0 = 7", "lateWith 2 0 = 6", "pass 2 = 6", "lateWith 0 0 = 6",
            "lateWith 1 1 = 6", "pass 60 = 17", "late = 6", "lateWith 0 1 = 6", "lateWith 2 0 = 6", "pass 60 = 0",
            "pass 60 = 0", "pass 60 = 0", "lateWith 1 0 = 6");
        String refused = "Promise 28 | Throws IllegalArgumentException if rule is not 0 to 2 | ";
        Runs.check(refused + "0 and 2 are", Mills.rows(Mills.BUSY, Mills.of("lateWith 0 0 = 11", "lateWith 2 1 = 11")));
        Runs.check(refused + "refused", Mills.rows(Mills.BUSY, Mills.refused("lateWith # 0", 0, 2, "IAE"),
            Mills.refused("lateWith # 1", 0, 2, "IAE"), Mills.BUSY_GOES_ON));
    }

    private static void lateWithAsGiven() {
        String title = "Promise 28 | if that was so from now on, | ";
        Runs.check(title + "whatever the rule is now", "addStone 4 = 0", "bring 0 20 1 = 0", "bring 0 3 5 = 1",
            "lateWith 0 0 = 7", "lateWith 2 0 = 6", "setRule 2 = 0", "lateWith 0 0 = 7", "lateWith 1 0 = 7",
            "lateWith 2 0 = 6", "rule = 2", "setRule 1 = 2", "lateWith 0 1 = 7", "lateWith 2 1 = 6");
        Runs.check(title + "whether taking off is allowed now or not", "addStone 4 = 0", "bring 0 20 50 = 0",
            "pass 1 = 3", "bring 0 3 2 = 1", "lateWith 0 0 = 5", "lateWith 0 1 = 5", "lateWith 1 0 = 5",
            "lateWith 1 1 = 0", "lateWith 2 0 = 5", "lateWith 2 1 = 0", "setTakingOff 1 = false", "lateWith 1 0 = 5",
            "lateWith 1 1 = 0", "lateWith 2 0 = 5", "lateWith 2 1 = 0", "setTakingOff 1 = true");
    }

    private static void lateWithNotGround() {
        String title = "Promise 28 | each that is not ground then counts 200 | ";
        Runs.check(title + "none, one, two", "lateWith 0 0 = 0", "bring 0 1 200 = 0", "lateWith 0 0 = 200",
            "bring 0 1 1 = 1", "lateWith 2 1 = 400");
        Runs.check(title + "all 16", Mills.rows(Mills.sacks(16, 1, 1), Mills.of("lateWith 0 0 = 3200", "lateWith 1 1 = 3200",
            "addStone 1 = 0", "lateWith 0 0 = 256")));
        // Sack 0 takes the 16 winds of 200 hours; sack 1 counts 200, and sack 0 the 188 hours behind 1.
        Runs.check(title + "beside one that is late", Runs.join(WIND_AT_8, "bring 0 16 1 = 0", "bring 0 1 1 = 1",
            "lateWith 0 0 = 388"));
    }

    private static void lateWithin200() {
        Runs.check("Promise 28 | and 200 hours went by; | ground at the 200th hour", Runs.join(WIND_AT_7,
            "bring 0 17 1 = 0", "lateWith 0 0 = 199", "setUntil 0 199 = 1", "lateWith 0 0 = 1", "setUntil 0 200 = 199",
            "lateWith 0 0 = 0"));
        Runs.check("Promise 28 | and 200 hours went by; | ground at the 201st hour", Runs.join(WIND_AT_8,
            "bring 0 17 1 = 0", "lateWith 0 0 = 200", "setUntil 0 200 = 1", "lateWith 0 0 = 200", "pass 1 = 0",
            "lateWith 0 0 = 1", "setUntil 0 1 = 200", "lateWith 0 0 = 200"));
    }

    private static void bestRule() {
        String title = "Promise 29 | Returns the rule with the smallest lateWith(), | ";
        Runs.check(title + "only 0", "addStone 4 = 0", "bring 0 7 2 = 0", "bring 0 60 1 = 1", "bring 0 3 200 = 2",
            "lateWith 0 0 = 17", "lateWith 1 0 = 31", "lateWith 2 0 = 19", "bestRule = 0", "setRule 2 = 0", "bestRule = 0",
            "setRule 1 = 2", "bestRule = 0", "rule = 1");
        Runs.check(title + "only 1", "addStone 4 = 0", "bring 0 20 50 = 0", "bring 0 20 3 = 1", "lateWith 0 0 = 9",
            "lateWith 1 0 = 3", "lateWith 2 0 = 9", "bestRule = 1", "setRule 2 = 0", "bestRule = 1", "rule = 2");
        Runs.check(title + "only 2", "addStone 4 = 0", "bring 0 20 1 = 0", "bring 0 3 5 = 1", "lateWith 0 0 = 7",
            "lateWith 1 0 = 7", "lateWith 2 0 = 6", "bestRule = 2", "setRule 1 = 0", "bestRule = 2", "setRule 2 = 1",
            "bestRule = 2");
    }

    private static void bestRuleOfSeveral() {
        String title = "Promise 29 | of several the smallest number | ";
        Runs.check(title + "1 and 2", "addStone 4 = 0", "bring 0 20 50 = 0", "bring 0 3 1 = 1", "lateWith 0 0 = 6",
            "lateWith 1 0 = 0", "lateWith 2 0 = 0", "bestRule = 1", "setRule 2 = 0", "bestRule = 1");
        Runs.check(title + "0 and 2", "addStone 4 = 0", "bring 0 3 3 = 0", "bring 0 20 2 = 1", "lateWith 0 0 = 5",
            "lateWith 1 0 = 8", "lateWith 2 0 = 5", "setRule 2 = 0", "bestRule = 0");
        Runs.check(title + "0 and 1", "addStone 4 = 0", "bring 0 20 3 = 0", "bring 0 3 50 = 1", "lateWith 0 0 = 3",
            "lateWith 1 0 = 3", "lateWith 2 0 = 4", "setRule 1 = 0", "bestRule = 0");
        Runs.check(title + "all three, without sacks and with one", "setRule 2 = 0", "bestRule = 0", "addStone 4 = 0",
            "bring 0 20 1 = 0", "bestRule = 0");
        Runs.check(title + "all three, none is ground", Mills.rows(Mills.sacks(16, 60, 1), Mills.of("setRule 1 = 0",
            "lateWith 1 0 = 3200", "bestRule = 0")));
    }

    private static void bestRuleByTakingOff() {
        Runs.check("Promise 29 | taking off allowed or not as now, | both ways", "addStone 4 = 0", "bring 0 20 50 = 0",
            "pass 1 = 3", "bring 0 3 2 = 1", "bestRule = 0", "setTakingOff 1 = false", "bestRule = 1",
            "setTakingOff 0 = true", "bestRule = 0");
    }

    private static void wouldBeInTime() {
        String title = "Promise 30 | Returns whether a sack with them, brought now, would be ground in time, | ";
        Runs.check(title + "without stones", "wouldBeInTime 1 200 = false", "wouldBeInTime 60 200 = false");
        Runs.check(title + "at the hour, and one behind", "addStone 4 = 0", "wouldBeInTime 1 1 = true",
            "wouldBeInTime 3 1 = true", "wouldBeInTime 4 1 = false", "wouldBeInTime 4 2 = true", "wouldBeInTime 7 2 = true",
            "wouldBeInTime 8 2 = false");
        Runs.check(title + "the most grain and the last hour", "addStone 4 = 0", "wouldBeInTime 60 16 = true",
            "wouldBeInTime 60 15 = false", "wouldBeInTime 60 200 = true", "wouldBeInTime 1 200 = true");
        Runs.check(title + "from a later hour", "addStone 4 = 0", "pass 60 = 0", "wouldBeInTime 1 60 = false",
            "wouldBeInTime 3 61 = true", "wouldBeInTime 4 61 = false", "wouldBeInTime 4 62 = true",
            "wouldBeInTime 1 1 = false", "sacks = 0");
    }

    private static void wouldBeInTimeAtTheLastHours() {
        String title = "Promise 30 | would be ground in time, | ";
        Runs.check(title + "at the 200th hour", Runs.join(WIND_AT_7, "wouldBeInTime 17 200 = true",
            "wouldBeInTime 17 199 = false", "wouldBeInTime 18 200 = false"));
        Runs.check(title + "not at the 201st hour", Runs.join(WIND_AT_8, "wouldBeInTime 17 200 = false",
            "wouldBeInTime 16 189 = true", "wouldBeInTime 16 188 = false"));
        String[] rows = Mills.rows(STRONG, Mills.stones(9), Mills.of("pass 60 = 0", "pass 60 = 0", "pass 60 = 0"));
        Runs.check(title + "asked at the hours 199, 200 and 201", Runs.join(rows, "pass 19 = 0", "hour = 199",
            "wouldBeInTime 8 200 = true", "wouldBeInTime 9 200 = false", "wouldBeInTime 1 199 = false", "pass 1 = 0",
            "wouldBeInTime 1 200 = false", "pass 1 = 0", "wouldBeInTime 1 200 = false"));
    }

    private static void wouldBeInTimeAmongOthers() {
        String title = "Promise 30 | brought now, would be ground in time, if nothing else is done; | ";
        Runs.check(title + "by turns and by hours, taking off or not", "addStone 4 = 0", "bring 0 10 50 = 0",
            "wouldBeInTime 3 4 = true", "wouldBeInTime 3 3 = false", "setRule 1 = 0", "wouldBeInTime 3 1 = true",
            "pass 1 = 3", "wouldBeInTime 3 2 = false", "wouldBeInTime 3 4 = true", "setTakingOff 1 = false",
            "wouldBeInTime 3 2 = true", "sacks = 1", "leftOf 0 = 7");
        Runs.check(title + "behind those of the same hour, it has the largest number", "addStone 4 = 0", "setRule 1 = 0",
            "bring 0 3 2 = 0", "bring 0 3 2 = 1", "wouldBeInTime 3 2 = false", "wouldBeInTime 3 1 = true",
            "wouldBeInTime 3 3 = true");
        Runs.check(title + "behind those with as much left", "addStone 4 = 0", "setRule 2 = 0", "bring 0 3 2 = 0",
            "wouldBeInTime 3 1 = false", "wouldBeInTime 2 1 = true", "wouldBeInTime 3 2 = true");
        Runs.check(title + "whether others are late or not", "addStone 4 = 0", "setRule 1 = 0", "bring 0 20 6 = 0",
            "spareOf 0 = 0", "wouldBeInTime 3 1 = true", "spareOf 0 = 0");
    }

    private static void wouldBeInTimeOf16() {
        String[] rows = Mills.rows(Mills.stones(9), Mills.sacks(15, 1, 9));
        String title = "Promise 30 | false if there are 16 | ";
        Runs.check(title + "not yet with 15", Runs.join(rows, "wouldBeInTime 1 16 = true", "wouldBeInTime 1 15 = false",
            "sacks = 15", "bring 0 1 9 = 15"));
        Runs.check(title + "with 16, also when all are ground", Runs.join(rows, "bring 0 1 9 = 15",
            "wouldBeInTime 1 200 = false", "wouldBeInTime 60 1 = false", "pass 60 = 16", "wouldBeInTime 1 200 = false"));
    }

    private static void wouldBeInTimeRefused() {
        String grain = "Promise 30 | Throws IllegalArgumentException if grain is not 1 to 60, | ";
        Runs.check(grain + "1 and 60 are", "addStone 9 = 0", "wouldBeInTime 1 200 = true", "wouldBeInTime 60 200 = true");
        Runs.check(grain + "refused", Mills.rows(Mills.BUSY, Mills.refused("wouldBeInTime # 9", 1, 60, "IAE"),
            Mills.BUSY_GOES_ON));
        String until = "Promise 30 | or until is not 1 to 200 | ";
        Runs.check(until + "1 and 200 are", "addStone 9 = 0", "wouldBeInTime 5 1 = true", "wouldBeInTime 5 200 = true");
        Runs.check(until + "refused", Mills.rows(Mills.BUSY, Mills.refused("wouldBeInTime 9 #", 1, 200, "IAE"),
            Mills.of("wouldBeInTime 0 0 = IAE", "wouldBeInTime 61 201 = IAE"), Mills.BUSY_GOES_ON));
        Runs.check(until + "refused also when there are 16, and without stones", Mills.rows(Mills.sacks(16, 1, 9),
            Mills.refused("wouldBeInTime # 9", 1, 60, "IAE"), Mills.refused("wouldBeInTime 9 #", 1, 200, "IAE")));
    }

    private static void groundIn() {
        String title = "Promise 31 | Returns how much will be ground in them, if nothing else is done | ";
        Runs.check(title + "nothing without stones, without sacks", "groundIn 1 = 0", "groundIn 60 = 0", "bring 0 5 9 = 0",
            "groundIn 1 = 0", "groundIn 60 = 0");
        Runs.check(title + "1 to 4 hours, and 60", "addStone 4 = 0", "groundIn 60 = 0", "bring 0 10 50 = 0",
            "bring 0 60 50 = 1", "groundIn 1 = 3", "groundIn 2 = 7", "groundIn 3 = 10", "groundIn 4 = 13",
            "groundIn 60 = 70", "hour = 0", "pass 2 = 7", "groundIn 1 = 3", "groundIn 60 = 63", "setWind 2 1 = 5",
            "groundIn 1 = 1");
        // Stone 1 grinds nothing in the first hour, 1 in each other one.
        Runs.check(title + "59 hours and 60 differ", Mills.rows(Mills.stones(1), Mills.sacks(1, 60, 9),
            Mills.of("groundIn 58 = 57", "groundIn 59 = 58", "groundIn 60 = 59")));
        Runs.check(title + "by the rule and taking off as they are now", "addStone 4 = 0", "bring 0 20 50 = 0",
            "pass 1 = 3", "bring 0 3 2 = 1", "setRule 1 = 0", "groundIn 2 = 8", "setTakingOff 1 = false",
            "groundIn 2 = 6");
        Runs.check(title + "the most, and nothing when all is ground", Runs.join(FULL, "groundIn 1 = 20",
            "groundIn 60 = 960", "pass 60 = 960", "groundIn 60 = 0"));
    }

    private static void groundInRefused() {
        String title = "Promise 31 | Throws IllegalArgumentException if hours is not 1 to 60 | ";
        Runs.check(title + "1 and 60 are", "groundIn 1 = 0", "groundIn 60 = 0");
        Runs.check(title + "refused on a new mill", Mills.refused("groundIn #", 1, 60, "IAE"));
        Runs.check(title + "refused in the middle of the work", Mills.rows(Mills.BUSY,
            Mills.refused("groundIn #", 1, 60, "IAE"), Mills.of("groundIn 1 = 5"), Mills.BUSY_GOES_ON));
    }

    private static void meanLeft() {
        Runs.check("Promise 32 | 0 without any. | no sacks, then all ground", "meanLeft = 0.0", "addStone 9 = 0",
            "meanLeft = 0.0", "bring 0 1 9 = 0", "meanLeft = 1.0", "pass 1 = 1", "meanLeft = 0.0");
        Runs.check("Promise 32 | Returns the mean of what is left of sacks that are not ground; | ground ones do not count",
            "bring 0 1 9 = 0", "meanLeft = 1.0", "bring 0 2 9 = 1", "meanLeft = 1.5", "bring 1 1 9 = 2",
            "meanLeft = 1.3333333333333333", "addStone 9 = 0", "pass 1 = 1", "meanLeft = 1.5", "pass 1 = 2",
            "meanLeft = 1.0", "pass 1 = 1", "meanLeft = 0.0");
    }

    private static void meanLeftOfAll() {
        String title = "Promise 32 | Returns the mean of what is left of sacks that are not ground; | ";
        Runs.check(title + "on stones too", "addStone 4 = 0", "bring 0 60 9 = 0", "bring 0 60 9 = 1", "pass 1 = 3",
            "meanLeft = 58.5");
        Runs.check(title + "all 16", Mills.rows(Mills.sacks(16, 60, 9), Mills.of("meanLeft = 60.0")));
        Runs.check(title + "15 of 16, then 1", Mills.rows(STRONG, Mills.stones(4), Mills.sacks(15, 3, 9),
            Mills.of("bring 0 60 9 = 15", "pass 1 = 3", "meanLeft = 6.8", "pass 14 = 42", "meanLeft = 60.0", "pass 1 = 3",
                "meanLeft = 57.0")));
    }
}
