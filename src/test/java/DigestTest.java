/** Promise 33: digest. Each title tells the sentence, and behind the second bar the case of it. */
public final class DigestTest {
    public static void main(String[] args) {
        startsWith();
        numbersInTheirOrder();
        eachPart();
        atEachHour();
        afterTheLongestUse();
        Runs.end();
    }

    private static void startsWith() {
        Runs.check("Promise 33 | A number d starts with 2281; | a new object", "digest = " + mixed(0, 0, 0, 0, 5, 0, 0,
            -1, 0, 0, 0,
            0, 0, 0, 0, 0, 0, 0, 0));
    }

    private static void numbersInTheirOrder() {
        Runs.check("Promise 33 | groundIn(12); | 12 hours of it, and 200 of willBeGroundAt()", "addStone 1 = 0",
            "bring 3 16 50 = 0", "digest = " + mixed(0, 1, 1, 0, 5, 0, 0, 0, 0, 0, 11,
                -1,
                -1, 16, 50, -1, 0, 17,
                0, 0, 0, 16, 0, 0, 0, 0));
        Runs.check("Promise 33 | for each of the following numbers x, d becomes d * 31 + x | two stones, two sacks",
            "addStone 4 = 0", "addStone 1 = 1", "bring 1 20 50 = 0", "pass 1 = 3", "bring 7 3 2 = 1",
            "setWind 1 6 = 5", "setTakingOff 1 = false", "setRule 2 = 0",
            "digest = " + mixed(1, 2, 2, 2, 6, 0, 1, 1, 0, 0, 20,
                0, -1,
                0, 17, 50, -1, 1, 6,
                -1, 3, 2, -1, 0, 5,
                0, 17, 0, 0, 0, 0, 0, 3),
            "pass 4 = 19", "digest = " + mixed(5, 2, 2, 2, 5, 1, 2, 0, 3, 0, 1,
                0, -1,
                0, 1, 50, -1, 0, 6,
                -1, 0, 2, 5, -1, 5,
                0, 1, 0, 0, 0, 0, 0, 0));
    }

    private static void eachPart() {
        String eachStone = "then for each stone sackOn(); | ";
        check(eachStone + "none, but sacks", Mills.sacks(2, 9, 9));
        check(eachStone + "all 4, on which there are sacks", Mills.rows(Mills.stones(1, 1, 1, 1), Mills.sacks(4, 9, 9),
            Mills.of("pass 2 =")));
        String eachSack = "then for each sack stoneOf(), leftOf(), untilOf(), groundAt(), placeOf(), willBeGroundAt(); | ";
        check(eachSack + "none, but stones", Mills.stones(3, 4));
        check(eachSack + "all 16, some ground, some on stones", Mills.rows(Mills.stones(9, 8, 1, 2),
            Mills.sacks(16, 30, 9), Mills.of("pass 20 =", "setRule 1 =")));
        check("then for each baker leftFor(). | of the middle of the work", Mills.BUSY);
        check("which wraps around as a 64-bit integer | all ground", Mills.rows(Mills.stones(9, 9, 9, 9),
            Mills.sacks(16, 3, 1), Mills.of("pass 60 =")));
        // The sacks that are never ground answer -1 for groundAt() and willBeGroundAt().
        check("which wraps around as a 64-bit integer | none ever ground", Mills.rows(Mills.winds(0), Mills.stones(9),
            Mills.sacks(16, 60, 200), Mills.of("pass 1 =")));
    }

    private static void atEachHour() {
        String[] rows = Mills.rows(Mills.BUSY, Mills.of("setWind 11 0 = 5", "setWind 0 20 = 9", "bring 0 60 3 = 4"));
        for (int hour = 2; hour < 27; hour++) {
            check("hour(), stones(), sacks(), rule(), wind(), ground(), changes(), first(), late(), bestRule(), "
                + "groundIn(12); | at the hour " + hour, rows);
            // What such an hour grinds is told by other runs.
            rows = Runs.join(rows, "pass 1 =");
        }
    }

    /** "An object is used for at most 512 calls after it has been made": 511 of them, then the digest. */
    private static void afterTheLongestUse() {
        String[] rows = Mills.rows(Mills.stones(9, 1), Mills.sacks(3, 60, 9), Mills.of("setTakingOff 1 ="));
        while (rows.length < 511) {
            rows = Runs.join(rows, "pass 60 =");
        }
        SlowMill slow = new SlowMill();
        for (String row : rows) {
            Runs.callOf(slow, row);
        }
        Runs.same("What it is | An object is used for at most 512 calls | the 512th, digest",
            Runs.after(rows, rows.length).digest(), slow.digest());
    }

    private static void check(String title, String[] rows) {
        Runs.same("Promise 33 | " + title, Runs.after(rows, rows.length).digest(),
            ofAnswers(Runs.after(rows, rows.length)));
    }

    /** The checksum of what the other calls answer. */
    private static long ofAnswers(GustMill mill) {
        long d = mixed(mill.hour(), mill.stones(), mill.sacks(), mill.rule(), mill.wind(), mill.ground(), mill.changes(),
            mill.first(), mill.late(), mill.bestRule(), mill.groundIn(12));
        for (int stone = 0; stone < mill.stones(); stone++) {
            d = d * 31 + mill.sackOn(stone);
        }
        for (int sack = 0; sack < mill.sacks(); sack++) {
            d = d * 31 + mill.stoneOf(sack);
            d = d * 31 + mill.leftOf(sack);
            d = d * 31 + mill.untilOf(sack);
            d = d * 31 + mill.groundAt(sack);
            d = d * 31 + mill.placeOf(sack);
            d = d * 31 + mill.willBeGroundAt(sack);
        }
        for (int baker = 0; baker < 8; baker++) {
            d = d * 31 + mill.leftFor(baker);
        }
        return d;
    }

    private static long mixed(int... numbers) {
        long d = 2281;
        for (int number : numbers) {
            d = d * 31 + number;
        }
        return d;
    }
}
