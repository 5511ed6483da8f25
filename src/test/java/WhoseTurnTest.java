/** Promises 22 to 25: whose turn it is. Each title tells the sentence, and behind the second bar the case of it. */
public final class WhoseTurnTest {
    private static final String[] FOUR = {"bring 0 30 90 = 0", "bring 0 20 80 = 1", "bring 0 20 85 = 2", "bring 0 40 80 = 3"};
    private static final String[] STRONG = Mills.winds(20);

    public static void main(String[] args) {
        first();
        firstOfAsMuch();
        firstOfThoseNotGround();
        placeOf();
        placeOfAll();
        placeOfGround();
        placeOfNoSuchSack();
        leftFor();
        leftForInAll();
        leftForRefused();
        late();
        lateAdded();
        Runs.end();
    }

    private static void first() {
        String title = "Promise 22 | Returns the first sack by the rule, | ";
        Runs.check(title + "by turns", Runs.join(FOUR, "first = 0"));
        Runs.check(title + "by hours, one less", Runs.join(FOUR, "setRule 1 = 0", "first = 1", "setUntil 3 79 = 80",
            "first = 3", "setUntil 0 78 = 90", "first = 0"));
        Runs.check(title + "by what is left, one less", Runs.join(FOUR, "setRule 2 = 0", "first = 1", "bring 0 19 99 = 4",
            "first = 4"));
        Runs.check(title + "the last of 16", Mills.rows(Mills.sacks(15, 60, 200), Mills.of("bring 0 59 199 = 15",
            "first = 0", "setRule 1 = 0", "first = 15", "setRule 2 = 1", "first = 15")));
        Runs.check(title + "also when it lies on a stone", Mills.rows(STRONG, Mills.stones(9), FOUR, Mills.of("pass 1 = 8",
            "stoneOf 0 = 0", "first = 0")));
    }

    private static void firstOfAsMuch() {
        String title = "Promise 22 | Returns the first sack by the rule, | ";
        Runs.check(title + "the smaller number of the same hour", Mills.rows(Mills.sacks(16, 9, 9), Mills.of("setRule 1 = 0",
            "first = 0", "setUntil 0 10 = 9", "first = 1", "setUntil 0 9 = 10", "first = 0")));
        Runs.check(title + "the smaller number of as much", Mills.rows(STRONG, Mills.stones(4), Mills.of("setRule 2 = 0",
            "bring 0 9 9 = 0", "bring 0 12 9 = 1", "bring 0 6 9 = 2", "first = 2", "lift 0 = ISE", "pass 1 = 3",
            "leftOf 2 = 3", "first = 2", "bring 0 3 9 = 3", "first = 2", "bring 0 2 9 = 4", "first = 4")));
    }

    private static void firstOfThoseNotGround() {
        String title = "Promise 22 | of those that are not ground; -1 if there is none. | ";
        Runs.check(title + "without sacks", "first = -1", "setRule 1 = 0", "first = -1", "setRule 2 = 1", "first = -1");
        Runs.check(title + "one after another", "addStone 9 = 0", "bring 0 3 9 = 0", "bring 0 9 8 = 1", "first = 0",
            "pass 1 = 3", "first = 1", "setRule 2 = 0", "first = 1", "setRule 1 = 2", "setUntil 0 1 = 9", "first = 1",
            "pass 1 = 5", "stoneOf 1 = 0", "first = 1", "pass 1 = 4", "first = -1");
        Runs.check(title + "the last of 16, then none", Mills.rows(STRONG, Mills.stones(9), Mills.sacks(16, 3, 9),
            Mills.of("pass 15 = 45", "first = 15", "pass 1 = 3", "first = -1", "setRule 2 = 0", "first = -1")));
    }

    private static void placeOf() {
        String title = "Promise 23 | Returns how many sacks that are not ground come ahead of it by the rule; | ";
        Runs.check(title + "by turns", Runs.join(FOUR, "placeOf 0 = 0", "placeOf 1 = 1", "placeOf 2 = 2", "placeOf 3 = 3"));
        Runs.check(title + "by hours", Runs.join(FOUR, "setRule 1 = 0", "placeOf 0 = 3", "placeOf 1 = 0", "placeOf 2 = 2",
            "placeOf 3 = 1"));
        Runs.check(title + "by what is left", Runs.join(FOUR, "setRule 2 = 0", "placeOf 0 = 2", "placeOf 1 = 0",
            "placeOf 2 = 1", "placeOf 3 = 3"));
        Runs.check(title + "none of one", "bring 0 3 9 = 0", "placeOf 0 = 0", "setRule 1 = 0", "placeOf 0 = 0");
    }

    private static void placeOfAll() {
        String title = "Promise 23 | Returns how many sacks that are not ground come ahead of it by the rule; | ";
        Runs.check(title + "15 of 16, by turns", Mills.rows(Mills.sacks(16, 3, 9), Mills.of("placeOf 0 = 0",
            "placeOf 15 = 15")));
        Runs.check(title + "15 of 16, of the same hour", Mills.rows(Mills.sacks(16, 3, 9), Mills.of("setRule 1 = 0",
            "placeOf 0 = 0", "placeOf 15 = 15", "setUntil 15 8 = 9", "placeOf 15 = 0", "placeOf 0 = 1", "placeOf 14 = 15")));
        Runs.check(title + "15 of 16, of as much", Mills.rows(Mills.sacks(16, 3, 9), Mills.of("setRule 2 = 0",
            "placeOf 0 = 0", "placeOf 15 = 15")));
    }

    private static void placeOfGround() {
        Runs.check("Promise 23 | sacks that are not ground come ahead of it | ground ones are not counted", Mills.rows(
            STRONG, Mills.stones(9), Mills.sacks(16, 3, 9), Mills.of("pass 4 = 12", "placeOf 4 = 0", "placeOf 15 = 11",
                "setRule 1 = 0", "setUntil 0 1 = 9", "placeOf 4 = 0", "setRule 2 = 1", "placeOf 4 = 0", "placeOf 15 = 11",
                "pass 11 = 33", "placeOf 15 = 0")));
        Runs.check("Promise 23 | -1 if it is ground. | by each rule", "addStone 9 = 0", "bring 0 3 9 = 0",
            "bring 0 9 8 = 1", "bring 0 9 8 = 2", "placeOf 0 = 0", "pass 1 = 3", "placeOf 0 = -1", "placeOf 1 = 0",
            "placeOf 2 = 1", "setRule 1 = 0", "placeOf 0 = -1", "setRule 2 = 1", "placeOf 0 = -1", "placeOf 1 = 0",
            "pass 1 = 5", "stoneOf 1 = 0", "placeOf 1 = 0", "placeOf 2 = 1", "pass 60 = 13", "placeOf 1 = -1",
            "placeOf 2 = -1");
    }

    private static void placeOfNoSuchSack() {
        String title = "Promise 23 | Throws IndexOutOfBoundsException if there is no such sack | ";
        Runs.check(title + "of none", Mills.noSuchSack("placeOf #", 0));
        Runs.check(title + "of 1", Mills.rows(Mills.sacks(1, 9, 9), Mills.noSuchSack("placeOf #", 1)));
        Runs.check(title + "of 4 at work", Mills.rows(Mills.BUSY, Mills.noSuchSack("placeOf #", 4)));
        Runs.check(title + "of 16", Mills.rows(Mills.sacks(16, 9, 9), Mills.noSuchSack("placeOf #", 16)));
    }

    private static void leftFor() {
        Runs.check("Promise 24 | Returns how much is left of the baker's sacks, | each baker", "bring 0 1 9 = 0",
            "bring 1 2 9 = 1", "bring 2 4 9 = 2", "bring 3 8 9 = 3", "bring 4 16 9 = 4", "bring 5 32 9 = 5",
            "bring 6 33 9 = 6", "bring 7 34 9 = 7", "leftFor 0 = 1", "leftFor 1 = 2", "leftFor 2 = 4", "leftFor 3 = 8",
            "leftFor 4 = 16", "leftFor 5 = 32", "leftFor 6 = 33", "leftFor 7 = 34");
        Runs.check("Promise 24 | Returns how much is left of the baker's sacks, | on stones and ground too",
            "addStone 9 = 0", "bring 0 3 9 = 0", "bring 7 9 8 = 1", "bring 0 60 8 = 2", "leftFor 0 = 63", "leftFor 7 = 9",
            "leftFor 3 = 0", "pass 1 = 3", "leftFor 0 = 60", "pass 1 = 5", "leftFor 7 = 4", "pass 1 = 4", "leftFor 7 = 0");
    }

    private static void leftForInAll() {
        String[] rows = {};
        for (int sack = 0; sack < 16; sack++) {
            rows = Runs.join(rows, "bring 7 60 9 = " + sack);
        }
        Runs.check("Promise 24 | in all. | none, one, two, all 16", Mills.rows(Mills.of("leftFor 7 = 0"), rows,
            Mills.of("leftFor 7 = 960", "leftFor 6 = 0", "leftFor 0 = 0")));
        Runs.check("Promise 24 | in all. | first and last", Mills.rows(Mills.of("bring 3 60 9 = 0"),
            Mills.of("bring 2 1 9 = 1", "bring 2 1 9 = 2", "bring 3 1 9 = 3", "leftFor 3 = 61", "leftFor 2 = 2")));
    }

    private static void leftForRefused() {
        String title = "Promise 24 | Throws IllegalArgumentException if baker is not 0 to 7 | ";
        Runs.check(title + "0 and 7 are, also without sacks", "leftFor 0 = 0", "leftFor 7 = 0");
        Runs.check(title + "refused without sacks", Mills.refused("leftFor #", 0, 7, "IAE"));
        Runs.check(title + "refused with sacks", Mills.rows(Mills.BUSY, Mills.refused("leftFor #", 0, 7, "IAE"),
            Mills.of("leftFor 2 = 25", "leftFor 7 = 6", "leftFor 0 = 0")));
    }

    private static void late() {
        String title = "Promise 25 | Returns how many hours all sacks that were ground are late, added. | ";
        Runs.check(title + "none without sacks", "late = 0", "pass 60 = 0", "late = 0");
        Runs.check(title + "none when ground ahead of the hour, or at it", "addStone 4 = 0", "bring 0 3 2 = 0",
            "bring 0 3 2 = 1", "pass 1 = 3", "late = 0", "pass 1 = 3", "late = 0", "groundAt 1 = 2");
        Runs.check(title + "1 when ground at the hour behind", "addStone 4 = 0", "bring 0 3 1 = 0", "bring 0 3 1 = 1",
            "pass 1 = 3", "late = 0", "pass 1 = 3", "late = 1", "pass 60 = 0", "late = 1");
        Runs.check(title + "not before it is ground", "addStone 4 = 0", "bring 0 60 1 = 0", "pass 15 = 59", "late = 0",
            "pass 1 = 1", "late = 15");
    }

    private static void lateAdded() {
        String title = "Promise 25 | added. | ";
        Runs.check(title + "what is ahead of its hour takes nothing away", "addStone 4 = 0", "bring 0 3 1 = 0",
            "bring 0 3 1 = 1", "bring 0 3 200 = 2", "bring 0 60 1 = 3", "pass 3 = 9", "late = 1", "pass 10 = 39",
            "late = 1", "pass 10 = 21", "groundAt 3 = 19", "late = 19", "setUntil 3 19 = 1", "late = 1",
            "setUntil 3 18 = 19", "late = 2");
        // One sack an hour is ground, at the hours 1 to 16: 0 + 1 + .. + 15 hours behind 1.
        Runs.check(title + "all 16", Mills.rows(STRONG, Mills.stones(4), Mills.sacks(16, 3, 1), Mills.of("pass 15 = 45",
            "late = 105", "pass 1 = 3", "late = 120")));
    }
}
