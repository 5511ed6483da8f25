import java.util.Arrays;

/**
 * Checks runs of calls on a new GustMill. A run is written as rows: the method, its numbers (a boolean as 0 or 1),
 * "=" and the answer that is due, with IAE, ISE and IOOBE for a call that throws. Of every row that asks or throws
 * it is checked too that it changes nothing.
 */
final class Runs {
    private static int wrong = 0;

    private Runs() {
    }

    static void check(String title, String... rows) {
        GustMill mill = new GustMill();
        for (int i = 0; i < rows.length; i++) {
            String due = dueOf(rows[i]);
            String got = callOf(mill, rows[i]);
            same(title + ", row " + i + ": " + rows[i], got, due);
            boolean isChanging = Calls.CHANGING.contains(partsOf(rows[i])[0]);
            if (!isChanging || due.startsWith("throws.")) {
                same(title + ", row " + i + ": " + rows[i] + " (changes nothing)",
                    Calls.snapshot(after(rows, i + 1)), Calls.snapshot(after(rows, i)));
            }
        }
    }

    /** A new mill after the first rows of a run. */
    static GustMill after(String[] rows, int count) {
        GustMill mill = new GustMill();
        for (int i = 0; i < count; i++) {
            callOf(mill, rows[i]);
        }
        return mill;
    }

    static void same(String what, Object got, Object due) {
        if (!got.equals(due)) {
            wrong++;
            System.out.println(what + " answered " + got + ", due is " + due);
        }
    }

    /** One run after another. */
    static String[] join(String[] first, String... second) {
        String[] all = Arrays.copyOf(first, first.length + second.length);
        System.arraycopy(second, 0, all, first.length, second.length);
        return all;
    }

    static void end() {
        if (wrong > 0) {
            System.out.println(wrong + " answers are not as due");
            System.exit(1);
        }
    }

    static String callOf(Object mill, String row) {
        String[] parts = partsOf(row);
        int[] numbers = new int[parts.length - 1];
        for (int i = 0; i < numbers.length; i++) {
            numbers[i] = Integer.parseInt(parts[i + 1]);
        }
        return Calls.answer(mill, parts[0], numbers);
    }

    private static String[] partsOf(String row) {
        return row.substring(0, row.indexOf('=')).trim().split(" +");
    }

    private static String dueOf(String row) {
        String due = row.substring(row.indexOf('=') + 1).trim();
        switch (due) {
            case "IAE":
                return "throws.IllegalArgumentException";
            case "ISE":
                return "throws.IllegalStateException";
            case "IOOBE":
                return "throws.IndexOutOfBoundsException";
            default:
                return due;
        }
    }
}
