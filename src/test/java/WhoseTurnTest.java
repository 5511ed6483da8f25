/** Promises 22 to 25: whose turn it is. */
public final class WhoseTurnTest {
    private static final String[] FOUR = {"bring 0 30 90 = 0", "bring 0 20 80 = 1", "bring 0 20 85 = 2", "bring 0 40 80 = 3"};

    public static void main(String[] args) {
        first();
        firstWithGround();
        placeOf();
        placeOfWithGround();
        leftFor();
        late();
        Runs.end();
    }

    private static void first() {
        Runs.check("promise 22, by turns", Runs.join(FOUR, "first = 0"));
        Runs.check("promise 22, by hours", Runs.join(FOUR, "setRule 1 = 0", "first = 1", "setUntil 3 79 = 80", "first = 3"));
        Runs.check("promise 22, by left", Runs.join(FOUR, "setRule 2 = 0", "first = 1", "bring 0 19 99 = 4", "first = 4"));
    }

    private static void firstWithGround() {
        Runs.check("promise 22, ground ones", "first = -1", "addStone 9 = 0", "bring 0 3 9 = 0", "bring 0 9 8 = 1",
            "first = 0", "pass 1 = 3", "first = 1", "setRule 2 = 0", "first = 1", "setRule 1 = 2", "first = 1",
            "pass 1 = 5", "stoneOf 1 = 0", "first = 1", "pass 1 = 4", "first = -1");
    }

    private static void placeOf() {
        Runs.check("promise 23, by turns", Runs.join(FOUR, "placeOf 0 = 0", "placeOf 1 = 1", "placeOf 2 = 2",
            "placeOf 3 = 3"));
        Runs.check("promise 23, by hours", Runs.join(FOUR, "setRule 1 = 0", "placeOf 0 = 3", "placeOf 1 = 0",
            "placeOf 2 = 2", "placeOf 3 = 1"));
        Runs.check("promise 23, by left", Runs.join(FOUR, "setRule 2 = 0", "placeOf 0 = 2", "placeOf 1 = 0",
            "placeOf 2 = 1", "placeOf 3 = 3"));
        Runs.check("promise 23, no such sack", Runs.join(FOUR, "placeOf 4 = IOOBE", "placeOf -1 = IOOBE",
            "placeOf 16 = IOOBE", "placeOf 2147483647 = IOOBE", "placeOf -2147483648 = IOOBE"));
    }

    private static void placeOfWithGround() {
        Runs.check("promise 23, ground ones", "addStone 9 = 0", "bring 0 3 9 = 0", "bring 0 9 8 = 1", "bring 0 9 8 = 2",
            "pass 1 = 3", "placeOf 0 = -1", "placeOf 1 = 0", "placeOf 2 = 1", "setRule 2 = 0", "placeOf 0 = -1",
            "placeOf 1 = 0", "pass 1 = 5", "stoneOf 1 = 0", "placeOf 1 = 0", "placeOf 2 = 1");
    }

    private static void leftFor() {
        Runs.check("promise 24", "addStone 9 = 0", "bring 0 3 9 = 0", "bring 7 9 8 = 1", "bring 0 60 8 = 2",
            "leftFor 0 = 63", "leftFor 7 = 9", "leftFor 3 = 0", "pass 1 = 3", "leftFor 0 = 60", "pass 1 = 5",
            "leftFor 7 = 4", "leftFor 8 = IAE", "leftFor -1 = IAE", "leftFor 2147483647 = IAE",
            "leftFor -2147483648 = IAE");
        Runs.check("promise 24, each baker", "bring 0 1 9 = 0", "bring 1 2 9 = 1", "bring 2 4 9 = 2", "bring 3 8 9 = 3",
            "bring 4 16 9 = 4", "bring 5 32 9 = 5", "bring 6 33 9 = 6", "bring 7 34 9 = 7", "leftFor 0 = 1",
            "leftFor 1 = 2", "leftFor 2 = 4", "leftFor 3 = 8", "leftFor 4 = 16", "leftFor 5 = 32", "leftFor 6 = 33",
            "leftFor 7 = 34");
    }

    private static void late() {
        Runs.check("promise 25", "late = 0", "addStone 4 = 0", "bring 0 3 1 = 0", "bring 0 3 1 = 1", "bring 0 3 200 = 2",
            "bring 0 60 1 = 3", "pass 1 = 3", "late = 0", "pass 1 = 3", "late = 1", "pass 1 = 3", "late = 1",
            "pass 10 = 39", "late = 1", "pass 10 = 21", "groundAt 3 = 19", "late = 19", "setUntil 3 19 = 1", "late = 1",
            "setUntil 3 18 = 19", "late = 2");
    }
}
