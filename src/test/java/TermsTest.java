/** The sentences of "Terms". Each title tells the sentence, and behind the second bar the case of it. */
public final class TermsTest {
    // In 12 hours 13 are ground: 2 in the first, 4 in the second, 7 in the last.
    private static final String[] UNEVEN = Mills.rows(Mills.of("setWind 0 2 = 5", "setWind 1 4 = 5", "setWind 11 7 = 5"),
        Mills.of("setWind 2 0 = 5", "setWind 3 0 = 5", "setWind 4 0 = 5", "setWind 5 0 = 5", "setWind 6 0 = 5",
            "setWind 7 0 = 5", "setWind 8 0 = 5", "setWind 9 0 = 5", "setWind 10 0 = 5"),
        Mills.of("addStone 9 = 0", "bring 0 60 200 = 0"));
    private static final String[] STRONG = Mills.winds(20);

    public static void main(String[] args) {
        time();
        windNumbers();
        windAtFirst();
        windOfAnHour();
        windComesRound();
        windComesRoundInWhatWouldBe();
        stones();
        sacks();
        grain();
        byTurns();
        byHours();
        byLeft();
        takingOffAtFirst();
        wantedByCount();
        wantedByRule();
        wantedAreNotGround();
        takenOff();
        stonesGet();
        stonesGetNone();
        asMuchAsTheSize();
        oneLess();
        noMoreThanIsLeft();
        noMoreThanTheWind();
        windForTheNextStone();
        theHourIsGreater();
        late();
        anExceptionChangesNothing();
        theExceptionNamedFirst();
        longestUse();
        Runs.end();
    }

    private static void time() {
        Runs.check("Terms | Time is told in hours, from 0.", "hour = 0", "pass 1 = 0", "hour = 1");
    }

    private static void windNumbers() {
        String title = "Terms | There are 12 numbers of it, 0 to 20 (each 5, at first) | ";
        String[] rows = {};
        for (int number = 0; number < 12; number++) {
            rows = Runs.join(rows, "setWind " + number + " 0 = 5", "setWind " + number + " 20 = 0");
        }
        Runs.check(title + "each 5, 0 and 20 allowed", Mills.rows(rows, Mills.refused("setWind # 5", 0, 11, "IOOBE")));
        Runs.check(title + "not -1, not 21", Mills.rows(Mills.refused("setWind 0 #", 0, 20, "IAE"),
            Mills.refused("setWind 11 #", 0, 20, "IAE"), Mills.of("setWind 0 5 = 5", "setWind 11 5 = 5")));
    }

    private static void windAtFirst() {
        String[] rows = {"addStone 9 = 0", "bring 0 60 200 = 0", "bring 0 60 200 = 1"};
        for (int hour = 0; hour < 13; hour++) {
            rows = Runs.join(rows, "wind = 5", "pass 1 = 5");
        }
        Runs.check("Terms | (each 5, at first) | as it grinds", Runs.join(rows, "groundAt 0 = 12", "leftOf 1 = 55"));
    }

    private static void windOfAnHour() {
        String[] rows = {};
        for (int number = 0; number < 12; number++) {
            rows = Runs.join(rows, "setWind " + number + " " + (number + 1) + " = 5");
        }
        for (int hour = 0; hour < 26; hour++) {
            rows = Runs.join(rows, "wind = " + (hour % 12 + 1), "pass 1 = 0");
        }
        Runs.check("Terms | that of an hour is the one with the number hour % 12. | each hour up to 26", rows);
    }

    private static void windComesRound() {
        String title = "Terms | that of an hour is the one with the number hour % 12. | ";
        Runs.check(title + "hours 11, 12, 13 and 23, 24, 25", Runs.join(UNEVEN, "pass 11 = 6", "pass 1 = 7", "pass 1 = 2",
            "pass 1 = 4", "pass 1 = 0", "pass 8 = 0", "hour = 23", "pass 1 = 7", "pass 1 = 2", "pass 1 = 4", "pass 1 = 0"));
        Runs.check(title + "round in one pass", Runs.join(UNEVEN, "pass 13 = 15", "pass 11 = 11", "pass 12 = 13"));
        Runs.check(title + "round five times in one pass", Runs.join(UNEVEN, "pass 60 = 60", "groundAt 0 = 60"));
        Runs.check(title + "far off", Runs.join(UNEVEN, "pass 60 = 60", "pass 59 = 0", "wind = 7", "bring 0 20 1 = 1",
            "pass 1 = 7", "hour = 120", "wind = 2", "pass 1 = 2", "wind = 4", "pass 1 = 4", "wind = 0", "pass 1 = 0"));
    }

    private static void windComesRoundInWhatWouldBe() {
        String title = "Terms | that of an hour is the one with the number hour % 12. | ";
        Runs.check(title + "what would be, from the hour 0", Runs.join(UNEVEN, "willBeGroundAt 0 = 60", "groundIn 11 = 6",
            "groundIn 12 = 13", "groundIn 13 = 15", "groundIn 14 = 19", "groundIn 24 = 26", "groundIn 60 = 60"));
        Runs.check(title + "what would be, from the hours 11 and 12", Runs.join(UNEVEN, "pass 11 = 6", "groundIn 1 = 7",
            "groundIn 2 = 9", "groundIn 3 = 13", "willBeGroundAt 0 = 60", "spareOf 0 = 140", "pass 1 = 7",
            "groundIn 1 = 2", "groundIn 12 = 13", "willBeGroundAt 0 = 60"));
        Runs.check(title + "in time, and late", "setWind 0 0 = 5", "addStone 9 = 0", "pass 11 = 0",
            "wouldBeInTime 5 12 = true", "wouldBeInTime 6 13 = false", "wouldBeInTime 6 14 = true", "pass 1 = 0",
            "wouldBeInTime 1 13 = false", "wouldBeInTime 1 14 = true", "bring 0 1 13 = 0", "lateWith 0 0 = 1");
    }

    private static void stones() {
        Runs.check("Terms | At most 4, numbered from 0;", "addStone 1 = 0", "addStone 1 = 1", "addStone 1 = 2",
            "stones = 3", "addStone 1 = 3", "addStone 1 = ISE", "stones = 4", "sackOn 3 = -1", "sackOn 4 = IOOBE");
        Runs.check("Terms | each has a size, 1 to 9,", Mills.rows(Mills.refused("addStone #", 1, 9, "IAE"),
            Mills.of("addStone 1 = 0", "addStone 9 = 1"), Mills.refused("addStone #", 1, 9, "IAE")));
        String title = "Terms | and has one sack on it, or none. | ";
        Runs.check(title + "more sacks than stones", Mills.rows(STRONG, Mills.stones(2, 2), Mills.sacks(3, 9, 9),
            Mills.of("pass 1 = 2", "sackOn 0 = 0", "sackOn 1 = 1", "stoneOf 2 = -1", "changes = 2", "pass 1 = 4",
                "stoneOf 2 = -1", "changes = 2")));
        Runs.check(title + "more stones than sacks", Mills.rows(STRONG, Mills.stones(2, 2, 2, 2), Mills.sacks(1, 9, 9),
            Mills.of("pass 1 = 1", "sackOn 0 = 0", "sackOn 1 = -1", "sackOn 2 = -1", "sackOn 3 = -1", "changes = 1",
                "pass 1 = 2", "stoneOf 0 = 0", "changes = 1")));
    }

    private static void sacks() {
        Runs.check("Terms | At most 16, numbered from 0 as they are brought;", Mills.rows(Mills.sacks(15, 5, 5),
            Mills.of("sacks = 15", "bring 0 5 5 = 15", "sacks = 16", "bring 0 5 5 = ISE", "sacks = 16", "leftOf 15 = 5",
                "leftOf 16 = IOOBE")));
        Runs.check("Terms | each is a baker's, 0 to 7,", Mills.rows(Mills.of("bring 0 5 5 = 0", "bring 7 6 5 = 1"),
            Mills.refused("bring # 5 5", 0, 7, "IAE"), Mills.of("leftFor 0 = 5", "leftFor 7 = 6")));
        Runs.check("Terms | has some grain, 1 to 60, of which some is left,", Mills.rows(Mills.of("bring 0 1 5 = 0",
            "bring 0 60 5 = 1"), Mills.refused("bring 0 # 5", 1, 60, "IAE"), Mills.of("leftOf 0 = 1", "leftOf 1 = 60")));
        Runs.check("Terms | and an hour by which it should be ground, 1 to 200.", Mills.rows(Mills.of("bring 0 5 1 = 0",
            "bring 0 5 200 = 1"), Mills.refused("bring 0 5 #", 1, 200, "IAE"), Mills.of("untilOf 0 = 1",
            "untilOf 1 = 200")));
    }

    private static void grain() {
        Runs.check("Terms | A sack with nothing left is ground. | 1 left, and none", Mills.rows(STRONG, Mills.stones(5),
            Mills.sacks(1, 5, 9), Mills.of("pass 1 = 4", "leftOf 0 = 1", "ground = 0", "groundAt 0 = -1", "placeOf 0 = 0",
                "pass 1 = 1", "leftOf 0 = 0", "ground = 1", "groundAt 0 = 2", "placeOf 0 = -1")));
    }

    private static void byTurns() {
        String[] four = {"bring 0 30 90 = 0", "bring 0 20 80 = 1", "bring 0 1 1 = 2", "bring 0 60 200 = 3"};
        Runs.check("Terms | Rules (0, at first)", Runs.join(four, "rule = 0", "first = 0"));
        Runs.check("Terms | 0, by turns: the one with the smaller number.", Runs.join(four, "first = 0", "placeOf 0 = 0",
            "placeOf 1 = 1", "placeOf 2 = 2", "placeOf 3 = 3"));
    }

    private static void byHours() {
        String[] four = {"setRule 1 = 0", "bring 0 1 200 = 0", "bring 0 60 2 = 1", "bring 0 2 1 = 2", "bring 0 3 199 = 3"};
        Runs.check("Terms | 1, by hours: the one that should be ground by the smaller hour;", Runs.join(four, "first = 2",
            "placeOf 2 = 0", "placeOf 1 = 1", "placeOf 3 = 2", "placeOf 0 = 3"));
        String title = "Terms | of the same the one with the smaller number. | by hours, ";
        Runs.check(title + "one less, the same, one more", Runs.join(four, "setUntil 2 2 = 1", "first = 1",
            "placeOf 1 = 0", "placeOf 2 = 1", "setUntil 2 3 = 2", "first = 1", "setUntil 1 4 = 2", "first = 2"));
        Runs.check(title + "all 16, less left behind", Mills.rows(Mills.of("setRule 1 = 0"), Mills.sacks(15, 60, 7),
            Mills.of("bring 0 1 7 = 15", "first = 0", "placeOf 0 = 0", "placeOf 14 = 14", "placeOf 15 = 15",
                "setUntil 15 6 = 7", "first = 15", "placeOf 0 = 1", "placeOf 14 = 15")));
    }

    private static void byLeft() {
        String[] four = {"setRule 2 = 0", "bring 0 60 1 = 0", "bring 0 2 200 = 1", "bring 0 1 200 = 2", "bring 0 59 2 = 3"};
        Runs.check("Terms | 2, by what is left: the one of which less is left;", Runs.join(four, "first = 2",
            "placeOf 2 = 0", "placeOf 1 = 1", "placeOf 3 = 2", "placeOf 0 = 3"));
        String title = "Terms | of as much the one with the smaller number. | by what is left, ";
        String[] begun = Mills.rows(STRONG, Mills.of("addStone 4 = 0", "setRule 2 = 0", "bring 0 12 50 = 0", "pass 1 = 3"));
        Runs.check(title + "one less, as much, one more", Runs.join(begun, "bring 0 9 1 = 1", "first = 0",
            "placeOf 1 = 1", "bring 0 10 1 = 2", "placeOf 2 = 2", "bring 0 8 200 = 3", "first = 3", "placeOf 0 = 1"));
        Runs.check(title + "less by grinding", Mills.rows(STRONG, Mills.of("addStone 4 = 0", "setRule 2 = 0",
            "bring 0 12 50 = 0", "bring 0 12 1 = 1", "bring 0 9 1 = 2", "first = 2", "pass 1 = 3", "stoneOf 2 = 0",
            "first = 2", "placeOf 0 = 1", "placeOf 1 = 2")));
        Runs.check(title + "all 16, sooner hours behind", Mills.rows(Mills.of("setRule 2 = 0"), Mills.sacks(15, 7, 200),
            Mills.of("bring 0 7 1 = 15", "first = 0", "placeOf 0 = 0", "placeOf 14 = 14", "placeOf 15 = 15")));
    }

    private static void takingOffAtFirst() {
        Runs.check("Terms | Taking off (not allowed, at first).", Mills.rows(STRONG, Mills.of("addStone 4 = 0",
            "bring 0 20 9 = 0", "pass 1 = 3", "setRule 1 = 0", "bring 0 20 1 = 1", "first = 1", "pass 1 = 4",
            "sackOn 0 = 0", "changes = 1", "setTakingOff 1 = false")));
    }

    // Two stones with the sacks 0 and 1 on them, one hour ground; the turns are by hours.
    private static String[] twoOnStones() {
        return Mills.rows(STRONG, Mills.of("addStone 4 = 0", "addStone 4 = 1", "setRule 1 = 0", "setTakingOff 1 = false",
            "bring 0 30 10 = 0", "bring 0 30 20 = 1", "pass 1 = 6"));
    }

    private static void wantedByCount() {
        String title = "Terms | Wanted are, of all sacks that are not ground, as many as there are stones, | ";
        Runs.check(title + "one sack fewer than stones", Mills.rows(STRONG, Mills.of("addStone 4 = 0", "addStone 4 = 1",
            "setTakingOff 1 = false", "bring 0 30 10 = 0", "pass 1 = 3", "pass 1 = 4", "sackOn 0 = 0", "changes = 1")));
        Runs.check(title + "as many sacks as stones, in another order", Runs.join(twoOnStones(), "setUntil 1 5 = 20",
            "pass 1 = 8", "sackOn 0 = 0", "sackOn 1 = 1", "changes = 2"));
        Runs.check(title + "one more, the last of them on no stone", Runs.join(twoOnStones(), "bring 0 30 20 = 2",
            "pass 1 = 8", "sackOn 0 = 0", "sackOn 1 = 1", "changes = 2"));
        Runs.check(title + "one more, the last of them on a stone", Runs.join(twoOnStones(), "bring 0 30 19 = 2",
            "pass 1 = 7", "sackOn 0 = 0", "sackOn 1 = 2", "stoneOf 1 = -1", "changes = 3"));
        Runs.check(title + "one stone more", Runs.join(twoOnStones(), "bring 0 30 1 = 2", "addStone 4 = 2", "pass 1 = 11",
            "sackOn 0 = 0", "sackOn 1 = 1", "sackOn 2 = 2", "changes = 3"));
        Runs.check(title + "none without stones", "setTakingOff 1 = false", "bring 0 30 1 = 0", "pass 60 = 0",
            "stoneOf 0 = -1", "changes = 0", "willBeGroundAt 0 = -1");
        Runs.check(title + "4 of 16", Mills.rows(STRONG, Mills.stones(5, 5, 5, 5), Mills.sacks(16, 60, 50),
            Mills.of("setTakingOff 1 = false", "setRule 1 = 0", "pass 1 = 16", "setUntil 12 4 = 50", "setUntil 13 3 = 50",
                "setUntil 14 2 = 50", "setUntil 15 1 = 50", "pass 1 = 16", "sackOn 0 = 15", "sackOn 1 = 14",
                "sackOn 2 = 13", "sackOn 3 = 12", "changes = 8", "pass 1 = 20", "changes = 8")));
    }

    private static void wantedByRule() {
        String title = "Terms | the first ones by the rule. | ";
        Runs.check(title + "by turns, one with a smaller number is wanted", Mills.rows(STRONG, Mills.of("addStone 4 = 0",
            "setTakingOff 1 = false", "setRule 1 = 0", "bring 0 30 9 = 0", "bring 0 30 8 = 1", "pass 1 = 3",
            "sackOn 0 = 1", "setRule 0 = 1", "pass 1 = 3", "sackOn 0 = 0", "stoneOf 1 = -1", "changes = 2")));
        Runs.check(title + "by hours, of the same the smaller number stays", Runs.join(twoOnStones(), "bring 0 1 20 = 2",
            "pass 1 = 8", "sackOn 1 = 1", "setUntil 2 19 = 20", "pass 1 = 5", "groundAt 2 = 3", "stoneOf 1 = -1"));
        String[] seven = Mills.rows(STRONG, Mills.of("addStone 4 = 0", "setRule 2 = 0", "setTakingOff 1 = false",
            "bring 0 10 50 = 0", "pass 1 = 3"));
        Runs.check(title + "by what is left, of as much the smaller number stays", Runs.join(seven, "bring 0 7 9 = 1",
            "pass 1 = 4", "sackOn 0 = 0", "changes = 1"));
        Runs.check(title + "by what is left, one less is wanted", Runs.join(seven, "bring 0 6 9 = 1", "pass 1 = 3",
            "sackOn 0 = 1", "stoneOf 0 = -1", "leftOf 0 = 7", "pass 1 = 3", "groundAt 1 = 3", "pass 1 = 3",
            "sackOn 0 = 0", "changes = 3"));
        Runs.check(title + "by what is left, the smaller number is wanted for as much", Mills.rows(STRONG,
            Mills.of("addStone 4 = 0", "setTakingOff 1 = false", "setRule 1 = 0", "bring 0 7 50 = 0", "bring 0 10 9 = 1",
                "pass 1 = 3", "stoneOf 1 = 0", "setRule 2 = 1", "pass 1 = 3", "sackOn 0 = 0", "leftOf 1 = 7")));
    }

    private static void wantedAreNotGround() {
        String title = "Terms | Wanted are, of all sacks that are not ground, | ";
        Runs.check(title + "a ground one ahead counts for none", Mills.rows(STRONG, Mills.of("addStone 4 = 0",
            "setTakingOff 1 = false", "bring 0 3 1 = 0", "bring 0 30 9 = 1", "pass 1 = 3", "ground = 1", "pass 1 = 3",
            "sackOn 0 = 1", "pass 1 = 4", "sackOn 0 = 1", "changes = 2", "setRule 1 = 0", "pass 1 = 4", "setRule 2 = 1",
            "pass 1 = 4", "sackOn 0 = 1", "changes = 2")));
        Runs.check(title + "none when all are ground", Mills.rows(STRONG, Mills.of("addStone 4 = 0",
            "setTakingOff 1 = false", "bring 0 3 1 = 0", "pass 60 = 3", "sackOn 0 = -1", "changes = 1")));
    }

    private static void takenOff() {
        String title = "Terms | If taking off is allowed, each sack on a stone that is not wanted is taken off. | ";
        Runs.check(title + "not when not allowed any more", Runs.join(twoOnStones(), "bring 0 30 1 = 2",
            "bring 0 30 1 = 3", "setTakingOff 0 = true", "pass 1 = 8", "sackOn 0 = 0", "sackOn 1 = 1", "changes = 2"));
        Runs.check(title + "one of two", Runs.join(twoOnStones(), "bring 0 30 15 = 2", "pass 1 = 7", "sackOn 0 = 0",
            "sackOn 1 = 2", "stoneOf 1 = -1", "leftOf 1 = 27", "changes = 3"));
        Runs.check(title + "all", Runs.join(twoOnStones(), "bring 0 30 2 = 2", "bring 0 30 1 = 3", "pass 1 = 6",
            "sackOn 0 = 3", "sackOn 1 = 2", "stoneOf 0 = -1", "stoneOf 1 = -1", "leftOf 0 = 27", "leftOf 1 = 27",
            "changes = 4"));
        Runs.check(title + "and comes back later", Runs.join(twoOnStones(), "bring 0 3 1 = 2", "pass 1 = 7",
            "stoneOf 1 = -1", "pass 1 = 7", "groundAt 2 = 2", "sackOn 1 = 1", "leftOf 1 = 24", "changes = 4"));
    }

    private static void stonesGet() {
        String title = "Terms | Then each stone without a sack, by numbers, gets the first one by the rule, "
            + "of those that are not ground and lie on no stone, | ";
        String[] rows = Mills.rows(STRONG, Mills.of("addStone 2 = 0", "addStone 2 = 1", "bring 0 30 90 = 0",
            "bring 0 20 80 = 1", "bring 0 10 85 = 2"));
        Runs.check(title + "by turns", Runs.join(rows, "pass 1 = 2", "sackOn 0 = 0", "sackOn 1 = 1", "changes = 2"));
        Runs.check(title + "by hours", Runs.join(rows, "setRule 1 = 0", "pass 1 = 2", "sackOn 0 = 1", "sackOn 1 = 2"));
        Runs.check(title + "by what is left", Runs.join(rows, "setRule 2 = 0", "pass 1 = 2", "sackOn 0 = 2",
            "sackOn 1 = 1"));
        Runs.check(title + "not the one on another stone, though it is first", Runs.join(rows, "pass 1 = 2", "lift 1 = 1",
            "setUntil 0 1 = 90", "setRule 1 = 0", "first = 0", "pass 1 = 3", "sackOn 0 = 0", "sackOn 1 = 1",
            "stoneOf 2 = -1"));
        Runs.check(title + "not a ground one", Runs.join(rows, "bring 0 1 1 = 3", "setRule 1 = 0", "pass 1 = 2",
            "groundAt 3 = 1", "sackOn 1 = 1", "pass 1 = 3", "sackOn 0 = 2", "sackOn 1 = 1", "groundAt 3 = 1"));
        Runs.check(title + "the last stone and the last sack", Mills.rows(STRONG, Mills.stones(2, 2, 2, 2),
            Mills.sacks(16, 30, 9), Mills.of("setRule 1 = 0", "setUntil 15 8 = 9", "pass 1 = 4", "sackOn 0 = 15",
                "sackOn 1 = 0", "sackOn 2 = 1", "sackOn 3 = 2", "stoneOf 3 = -1", "changes = 4")));
    }

    private static void stonesGetNone() {
        String title = "Terms | if there is one. | ";
        Runs.check(title + "no sack at all", "addStone 4 = 0", "pass 1 = 0", "sackOn 0 = -1", "changes = 0");
        Runs.check(title + "the only one lies on another stone", Mills.rows(STRONG, Mills.of("addStone 4 = 0",
            "addStone 4 = 1", "bring 0 30 9 = 0", "pass 1 = 3", "pass 1 = 4", "sackOn 0 = 0", "sackOn 1 = -1",
            "changes = 1")));
        Runs.check(title + "the only one is ground", "addStone 4 = 0", "bring 0 3 9 = 0", "pass 1 = 3", "pass 1 = 0",
            "sackOn 0 = -1", "stoneOf 0 = -1", "changes = 1");
    }

    private static void asMuchAsTheSize() {
        for (int size = 1; size <= 9; size++) {
            Runs.check("Terms | grinds: as much as its size, 1 less if it got the sack in this hour, | size " + size,
                Mills.rows(STRONG, Mills.of("addStone " + size + " = 0", "bring 0 60 200 = 0", "pass 1 = " + (size - 1),
                    "pass 1 = " + size, "pass 1 = " + size)));
        }
    }

    private static void oneLess() {
        String title = "Terms | 1 less if it got the sack in this hour, | ";
        Runs.check(title + "nothing of size 1, and the sack is not ground", "addStone 1 = 0", "bring 0 1 50 = 0",
            "pass 1 = 0", "stoneOf 0 = 0", "leftOf 0 = 1", "groundAt 0 = -1", "changes = 1", "pass 1 = 1",
            "groundAt 0 = 2");
        Runs.check(title + "for each sack that it gets", Mills.rows(STRONG, Mills.stones(4), Mills.sacks(2, 7, 50),
            Mills.of("pass 1 = 3", "pass 1 = 4", "groundAt 0 = 2", "pass 1 = 3", "pass 1 = 4", "groundAt 1 = 4")));
        Runs.check(title + "only the stone that got one", Mills.rows(STRONG, Mills.stones(4, 4), Mills.sacks(1, 60, 50),
            Mills.of("pass 1 = 3", "bring 0 60 50 = 1", "pass 1 = 7", "leftOf 0 = 53", "leftOf 1 = 57", "pass 1 = 8")));
        Runs.check(title + "after taking off", Runs.join(twoOnStones(), "bring 0 30 1 = 2", "pass 1 = 7", "leftOf 0 = 23",
            "leftOf 2 = 27", "pass 1 = 8"));
        Runs.check(title + "also the same one again", Mills.rows(STRONG, Mills.stones(4), Mills.sacks(1, 60, 50),
            Mills.of("pass 1 = 3", "pass 1 = 4", "lift 0 = 0", "pass 1 = 3", "changes = 2", "pass 1 = 4")));
        Runs.check(title + "not in the hour after one without wind", "addStone 4 = 0", "bring 0 10 50 = 0",
            "setWind 0 0 = 5", "pass 1 = 0", "sackOn 0 = 0", "changes = 1", "pass 1 = 4", "changes = 1");
    }

    private static void noMoreThanIsLeft() {
        String title = "Terms | but no more than is left of the sack, | ";
        String[] stone = Mills.rows(STRONG, Mills.stones(4));
        Runs.check(title + "one less than 1 less than the size", Runs.join(stone, "bring 0 2 9 = 0", "pass 1 = 2",
            "leftOf 0 = 0", "groundAt 0 = 1"));
        Runs.check(title + "1 less than the size", Runs.join(stone, "bring 0 3 9 = 0", "pass 1 = 3", "groundAt 0 = 1"));
        Runs.check(title + "the size", Runs.join(stone, "bring 0 4 9 = 0", "pass 1 = 3", "leftOf 0 = 1", "pass 1 = 1",
            "groundAt 0 = 2"));
        Runs.check(title + "one less than the size is left", Runs.join(stone, "bring 0 6 9 = 0", "pass 1 = 3",
            "pass 1 = 3", "leftOf 0 = 0", "groundAt 0 = 2"));
        Runs.check(title + "the size is left", Runs.join(stone, "bring 0 7 9 = 0", "pass 1 = 3", "pass 1 = 4",
            "groundAt 0 = 2"));
        Runs.check(title + "one more than the size is left", Runs.join(stone, "bring 0 8 9 = 0", "pass 1 = 3",
            "pass 1 = 4", "leftOf 0 = 1", "groundAt 0 = -1", "pass 1 = 1", "groundAt 0 = 3"));
    }

    private static void noMoreThanTheWind() {
        String title = "Terms | and than the wind of this hour less what stones ahead of it ground in this hour. | ";
        String[] three = Mills.rows(Mills.of("setWind 0 20 = 5", "setWind 1 7 = 5", "setWind 2 8 = 5", "setWind 3 9 = 5",
            "setWind 4 3 = 5", "setWind 5 4 = 5", "setWind 7 0 = 5"), Mills.stones(4, 4, 4), Mills.sacks(3, 60, 200),
            Mills.of("pass 1 = 9", "pass 1 = 7", "leftOf 0 = 53", "leftOf 1 = 54", "leftOf 2 = 57"));
        Runs.check(title + "one less than two stones, as much, one more", Runs.join(three, "pass 1 = 8", "leftOf 0 = 49",
            "leftOf 1 = 50", "leftOf 2 = 57", "pass 1 = 9", "leftOf 0 = 45", "leftOf 1 = 46", "leftOf 2 = 56"));
        Runs.check(title + "one less than one stone, as much, one more, none", Runs.join(three, "pass 2 = 17",
            "pass 1 = 3", "leftOf 0 = 42", "leftOf 1 = 46", "pass 1 = 4", "leftOf 0 = 38", "leftOf 1 = 46", "pass 1 = 5",
            "leftOf 0 = 34", "leftOf 1 = 45", "leftOf 2 = 56", "pass 1 = 0", "stoneOf 2 = 2"));
        Runs.check(title + "the most wind, 4 stones of the largest size", Mills.rows(STRONG, Mills.stones(9, 9, 9, 9),
            Mills.sacks(4, 60, 200), Mills.of("pass 1 = 20", "leftOf 0 = 52", "leftOf 1 = 52", "leftOf 2 = 56",
                "leftOf 3 = 60", "pass 1 = 20", "leftOf 0 = 43", "leftOf 1 = 43", "leftOf 2 = 54", "leftOf 3 = 60",
                "changes = 4")));
        Runs.check(title + "no wind", Mills.rows(Mills.winds(0), Mills.stones(9, 9, 9, 9), Mills.sacks(4, 1, 200),
            Mills.of("pass 60 = 0", "sackOn 0 = 0", "sackOn 3 = 3", "ground = 0", "changes = 4")));
    }

    private static void windForTheNextStone() {
        String title = "Terms | less what stones ahead of it ground in this hour. | ";
        Runs.check(title + "1 less, as they got their sacks", Mills.rows(Mills.stones(4, 4, 4), Mills.sacks(3, 20, 50),
            Mills.of("pass 1 = 5", "leftOf 0 = 17", "leftOf 1 = 18", "leftOf 2 = 20")));
        Runs.check(title + "no more than was left", "addStone 9 = 0", "addStone 9 = 1", "bring 0 2 50 = 0",
            "bring 0 20 50 = 1", "pass 1 = 5", "leftOf 0 = 0", "leftOf 1 = 17");
        Runs.check(title + "nothing without a sack", "addStone 9 = 0", "addStone 4 = 1", "bring 0 1 50 = 0",
            "bring 0 20 50 = 1", "pass 1 = 4", "pass 1 = 4", "sackOn 0 = -1", "stoneOf 1 = 1", "leftOf 1 = 13");
        Runs.check(title + "by numbers, not by the turns", "addStone 9 = 0", "addStone 9 = 1", "setWind 0 0 = 5",
            "bring 0 20 50 = 0", "bring 0 20 50 = 1", "pass 1 = 0", "setRule 1 = 0", "setUntil 1 1 = 50", "first = 1",
            "pass 1 = 5", "leftOf 0 = 15", "leftOf 1 = 20");
    }

    private static void theHourIsGreater() {
        Runs.check("Terms | The hour is 1 greater.", Mills.rows(Mills.stones(9), Mills.sacks(1, 3, 9), Mills.of("pass 1 = 3",
            "hour = 1", "pass 1 = 0", "hour = 2", "pass 60 = 0", "hour = 62")));
        String title = "Terms | Sacks on stones of which nothing is left are ground, at this hour, "
            + "and lie on no stone any more. | ";
        Runs.check(title + "on all stones", Mills.rows(STRONG, Mills.stones(4, 4, 4, 4), Mills.sacks(4, 3, 9),
            Mills.of("pass 1 = 12", "ground = 4", "groundAt 0 = 1", "groundAt 3 = 1", "sackOn 0 = -1", "sackOn 1 = -1",
                "sackOn 2 = -1", "sackOn 3 = -1", "stoneOf 0 = -1", "stoneOf 3 = -1")));
        Runs.check(title + "on none, with 1 left", Mills.rows(STRONG, Mills.stones(4, 4, 4, 4), Mills.sacks(4, 4, 9),
            Mills.of("pass 1 = 12", "ground = 0", "groundAt 0 = -1", "sackOn 0 = 0", "sackOn 3 = 3", "stoneOf 3 = 3")));
        Runs.check(title + "on the first and the last", Mills.rows(STRONG, Mills.stones(4, 3, 3, 4), Mills.sacks(4, 3, 9),
            Mills.of("pass 1 = 10", "ground = 2", "sackOn 0 = -1", "sackOn 1 = 1", "sackOn 2 = 2", "sackOn 3 = -1")));
        Runs.check(title + "and the stone gets another in the next hour", Mills.rows(STRONG, Mills.stones(9),
            Mills.sacks(2, 3, 9), Mills.of("pass 1 = 3", "sackOn 0 = -1", "stoneOf 1 = -1", "pass 1 = 3", "groundAt 0 = 1",
                "groundAt 1 = 2", "changes = 2")));
    }

    private static void late() {
        String title = "Terms | A sack that was ground is late by as many hours as that was behind the hour "
            + "by which it should be. | ";
        String[] atThree = Mills.rows(Mills.stones(4), Mills.sacks(1, 10, 4), Mills.of("pass 3 = 10", "groundAt 0 = 3"));
        Runs.check(title + "one ahead", Runs.join(atThree, "late = 0", "spareOf 0 = 1"));
        Runs.check(title + "at the hour", Runs.join(atThree, "setUntil 0 3 = 4", "late = 0", "spareOf 0 = 0"));
        Runs.check(title + "one behind", Runs.join(atThree, "setUntil 0 2 = 4", "late = 1", "spareOf 0 = -1"));
        Runs.check(title + "the most ahead", Runs.join(atThree, "setUntil 0 200 = 4", "late = 0", "spareOf 0 = 197"));
        Runs.check(title + "not one that is not ground yet", Mills.rows(Mills.stones(1), Mills.sacks(1, 60, 1),
            Mills.of("pass 60 = 59", "late = 0", "pass 1 = 1", "late = 60")));
    }

    private static void anExceptionChangesNothing() {
        // Runs.check compares a snapshot from before with one from after each call that is refused.
        Runs.check("Terms | A method that throws an exception changes nothing. | each method once", Mills.rows(Mills.BUSY,
            Mills.of("addStone 10 = IAE", "setWind 12 5 = IOOBE", "setWind 2 21 = IAE", "setRule 3 = IAE",
                "bring 8 5 5 = IAE", "bring 0 61 5 = IAE", "bring 0 5 201 = IAE", "lift 4 = IOOBE", "lift 0 = ISE",
                "lift 1 = ISE", "setUntil 4 5 = IOOBE", "setUntil 2 201 = IAE", "pass 61 = IAE", "sackOn 2 = IOOBE",
                "stoneOf 4 = IOOBE", "leftOf 4 = IOOBE", "untilOf 4 = IOOBE", "groundAt 4 = IOOBE", "placeOf 4 = IOOBE",
                "leftFor 8 = IAE", "willBeGroundAt 4 = IOOBE", "spareOf 4 = IOOBE", "lateWith 3 0 = IAE",
                "wouldBeInTime 61 5 = IAE", "groundIn 61 = IAE"), Mills.BUSY_GOES_ON));
        Runs.check("Terms | A method that throws an exception changes nothing. | when there is no more room", Mills.rows(
            Mills.stones(1, 2, 3, 4), Mills.sacks(16, 9, 9), Mills.of("pass 1 = 5", "addStone 9 = ISE", "bring 3 9 9 = ISE",
                "stones = 4", "sacks = 16", "leftFor 3 = 16", "pass 1 = 5")));
    }

    private static void theExceptionNamedFirst() {
        String title = "Terms | If several exceptions apply, the one that is named first is thrown. | ";
        Runs.check(title + "addStone, a wrong size when there are 4", Mills.rows(Mills.stones(5, 5, 5, 5),
            Mills.refused("addStone #", 1, 9, "IAE"), Mills.of("addStone 1 = ISE", "addStone 9 = ISE")));
        Runs.check(title + "setWind, a wrong wind for a wrong number", "setWind 12 21 = IOOBE", "setWind -1 -1 = IOOBE",
            "setWind 12 -1 = IOOBE", "setWind -1 21 = IOOBE");
        Runs.check(title + "bring, wrong numbers when there are 16", Mills.rows(Mills.sacks(16, 5, 5),
            Mills.refused("bring # 5 5", 0, 7, "IAE"), Mills.refused("bring 0 # 5", 1, 60, "IAE"),
            Mills.refused("bring 0 5 #", 1, 200, "IAE"), Mills.of("bring 0 1 1 = ISE", "bring 7 60 200 = ISE")));
        Runs.check(title + "setUntil, a wrong hour for no such sack", "setUntil 0 0 = IOOBE", "bring 0 5 5 = 0",
            "setUntil 1 0 = IOOBE", "setUntil 1 201 = IOOBE", "setUntil -1 0 = IOOBE", "setUntil -1 201 = IOOBE");
        Runs.check(title + "wouldBeInTime, wrong numbers when there are 16", Mills.rows(Mills.sacks(16, 5, 5),
            Mills.refused("wouldBeInTime # 5", 1, 60, "IAE"), Mills.refused("wouldBeInTime 5 #", 1, 200, "IAE"),
            Mills.of("wouldBeInTime 1 200 = false")));
    }

    /** "An object is used for at most 512 calls after it has been made": the 512th is still answered rightly. */
    private static void longestUse() {
        String title = "What it is | An object is used for at most 512 calls | the 512th, ";
        GustMill mill = new GustMill();
        Calls.answer(mill, "addStone", 9);
        for (int call = 2; call <= 508; call++) {
            Calls.answer(mill, "pass", 60);
        }
        Runs.same(title + "hour", mill.hour(), 30420);
        Calls.answer(mill, "bring", 0, 5, 1);
        Calls.answer(mill, "pass", 1);
        Runs.same(title + "spareOf", mill.spareOf(0), -30420);
    }
}
