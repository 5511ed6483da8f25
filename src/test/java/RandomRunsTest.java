import java.util.ArrayList;
import java.util.List;

/** Long runs of mixed calls, right and wrong ones, the same on GustMill and on SlowMill: they must answer alike. */
public final class RandomRunsTest {
    private static final int RUNS = 300;
    private static final int CALLS = 300;
    private static final int[] ODD = {Integer.MIN_VALUE, -1000, Integer.MAX_VALUE, 1000};

    // A generator of its own with a fixed start, so that every run of the tests makes the same calls.
    private long state = 20261119L;

    public static void main(String[] args) {
        RandomRunsTest test = new RandomRunsTest();
        for (int run = 0; run < RUNS; run++) {
            test.compare(run);
        }
        Runs.end();
    }

    private void compare(int run) {
        GustMill mill = new GustMill();
        SlowMill slow = new SlowMill();
        List<String> calls = new ArrayList<>();
        int grain = number(1, 60);
        int wind = number(0, 20);
        int hours = number(1, 20);
        for (int i = 0; i < CALLS; i++) {
            String name = randomName();
            int[] numbers = numbersFor(name, grain, wind, hours);
            calls.add(textOf(name, numbers));
            String due = Calls.answer(slow, name, numbers);
            String got = Calls.answer(mill, name, numbers);
            if (!got.equals(due)) {
                Runs.same("run " + run + ": " + calls, got, due);
                return;
            }
        }
        Runs.same("run " + run + ": " + calls + " and a snapshot", Calls.snapshot(mill), Calls.snapshot(slow));
    }

    private String randomName() {
        String[] often = {"bring", "pass", "pass", "lift", "setUntil", "setRule", "setTakingOff", "setWind", "addStone"};
        String[] questions = {"hour", "stones", "sacks", "rule", "wind", "sackOn", "stoneOf", "leftOf", "untilOf",
            "groundAt", "ground", "changes", "first", "placeOf", "leftFor", "late", "willBeGroundAt", "spareOf",
            "lateWith", "bestRule", "wouldBeInTime", "groundIn", "meanLeft", "digest"};
        String[] names = number(0, 9) < 4 ? often : questions;
        return names[number(0, names.length - 1)];
    }

    private int[] numbersFor(String name, int grain, int wind, int hours) {
        switch (name) {
            case "addStone":
                return new int[] {near(1, 9)};
            case "setWind":
                return new int[] {near(0, 11), near(0, wind)};
            case "setRule":
                return new int[] {near(0, 2)};
            case "setTakingOff":
                return new int[] {number(0, 1)};
            case "bring":
                return new int[] {near(0, 7), near(1, grain), near(1, 200)};
            case "setUntil":
                return new int[] {near(0, 15), near(1, 200)};
            case "pass":
            case "groundIn":
                return new int[] {near(1, hours)};
            case "sackOn":
                return new int[] {near(0, 3)};
            case "leftFor":
                return new int[] {near(0, 7)};
            case "lateWith":
                return new int[] {near(0, 2), number(0, 1)};
            case "wouldBeInTime":
                return new int[] {near(1, grain), near(1, 200)};
            case "lift":
            case "stoneOf":
            case "leftOf":
            case "untilOf":
            case "groundAt":
            case "placeOf":
            case "willBeGroundAt":
            case "spareOf":
                return new int[] {near(0, 15)};
            default:
                return new int[0];
        }
    }

    /** Mostly a number from one to the other, at times one just outside, or one far off. */
    private int near(int from, int to) {
        int kind = number(0, 29);
        if (kind == 0) {
            return ODD[number(0, ODD.length - 1)];
        }
        return kind == 1 ? from - 1 : kind == 2 ? to + 1 : number(from, to);
    }

    private int number(int from, int to) {
        state = state * 6364136223846793005L + 1442695040888963407L;
        return from + (int) ((state >>> 33) % (to - from + 1));
    }

    private static String textOf(String name, int[] numbers) {
        StringBuilder text = new StringBuilder(name);
        for (int number : numbers) {
            text.append(' ').append(number);
        }
        return text.toString();
    }
}
