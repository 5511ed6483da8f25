/** Promises 1 to 5: the mill. */
public final class TheMillTest {
    public static void main(String[] args) {
        aNewObject();
        addStone();
        sizesGrind();
        setWind();
        windsByHours();
        setRule();
        setTakingOff();
        Runs.end();
    }

    private static void aNewObject() {
        Runs.check("promise 1", "hour = 0", "stones = 0", "sacks = 0", "rule = 0", "wind = 5", "ground = 0",
            "changes = 0", "first = -1", "late = 0", "bestRule = 0", "groundIn 60 = 0", "meanLeft = 0.0",
            "lateWith 0 0 = 0", "sackOn 0 = IOOBE", "stoneOf 0 = IOOBE", "leftFor 0 = 0", "leftFor 7 = 0",
            "setTakingOff 0 = false", "pass 60 = 0", "hour = 60");
    }

    private static void addStone() {
        Runs.check("promise 2", "addStone 0 = IAE", "addStone -1 = IAE", "addStone 10 = IAE",
            "addStone 2147483647 = IAE", "addStone -2147483648 = IAE", "stones = 0", "addStone 1 = 0", "stones = 1",
            "sackOn 0 = -1", "addStone 9 = 1", "addStone 5 = 2", "sackOn 2 = -1", "addStone 5 = 3", "stones = 4",
            "addStone 1 = ISE", "addStone 9 = ISE", "stones = 4");
        Runs.check("promise 2, the exception that is named first", "addStone 5 = 0", "addStone 5 = 1", "addStone 5 = 2",
            "addStone 5 = 3", "addStone 0 = IAE", "addStone 10 = IAE", "addStone 5 = ISE");
    }

    private static void sizesGrind() {
        for (int size = 1; size <= 9; size++) {
            Runs.check("promise 2, size " + size, "addStone " + size + " = 0", "bring 0 60 200 = 0", "setWind 0 20 = 5",
                "setWind 1 20 = 5", "pass 1 = " + (size - 1), "pass 1 = " + size);
        }
    }

    private static void setWind() {
        for (int number = 0; number < 12; number++) {
            String call = "setWind " + number;
            Runs.check("promise 3, number " + number, call + " 0 = 5", call + " 20 = 0", call + " 7 = 20",
                call + " 21 = IAE", call + " -1 = IAE", call + " 7 = 7");
        }
        Runs.check("promise 3, wrong ones", "setWind -1 5 = IOOBE", "setWind 12 5 = IOOBE",
            "setWind 2147483647 5 = IOOBE", "setWind -2147483648 5 = IOOBE", "setWind 0 2147483647 = IAE",
            "setWind 0 -2147483648 = IAE", "setWind 12 21 = IOOBE", "setWind -1 -1 = IOOBE", "setWind 0 5 = 5");
        Runs.check("promise 3, this hour's", "setWind 0 9 = 5", "wind = 9", "setWind 1 3 = 5", "wind = 9", "pass 1 = 0",
            "wind = 3");
    }

    private static void windsByHours() {
        String[] rows = {"addStone 9 = 0", "bring 0 60 200 = 0"};
        for (int number = 0; number < 12; number++) {
            rows = Runs.join(rows, "setWind " + number + " " + number + " = 5");
        }
        int[] ground = {0, 1, 2, 3, 4, 5, 6, 7, 8, 9, 9, 6, 0};
        for (int hour = 0; hour < ground.length; hour++) {
            rows = Runs.join(rows, "wind = " + hour % 12, "pass 1 = " + ground[hour]);
        }
        Runs.check("promise 3, an hour takes the number hour % 12", Runs.join(rows, "wind = 1", "groundAt 0 = 12"));
    }

    private static void setRule() {
        Runs.check("promise 4", "setRule 2 = 0", "rule = 2", "setRule 1 = 2", "rule = 1", "setRule 1 = 1",
            "setRule -1 = IAE", "setRule 3 = IAE", "setRule 2147483647 = IAE", "setRule -2147483648 = IAE", "rule = 1",
            "setRule 0 = 1", "rule = 0");
    }

    private static void setTakingOff() {
        Runs.check("promise 5", "setTakingOff 0 = false", "setTakingOff 1 = false", "setTakingOff 1 = true",
            "setTakingOff 0 = true", "setTakingOff 0 = false");
    }
}
