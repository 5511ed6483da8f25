import java.util.ArrayList;
import java.util.Comparator;
import java.util.List;
import java.util.function.ToIntFunction;

/** The document once more, told in another way, for comparison: slow, with objects, sorted lists and whole copies. */
final class SlowMill {
    private static final class Sack {
        final int number;
        final int baker;
        int left;
        int until;
        int groundAt = -1;

        Sack(int number, int baker, int left, int until) {
            this.number = number;
            this.baker = baker;
            this.left = left;
            this.until = until;
        }
    }

    private static final class Stone {
        final int size;
        Sack sack;
        int gotAt = -1;

        Stone(int size) {
            this.size = size;
        }
    }

    private final List<Stone> stones = new ArrayList<>();
    private final List<Sack> sacks = new ArrayList<>();
    private final int[] winds = {5, 5, 5, 5, 5, 5, 5, 5, 5, 5, 5, 5};
    private int rule;
    private boolean isTakingOff;
    private int hour;
    private int changes;

    private SlowMill copy() {
        SlowMill copy = new SlowMill();
        for (Sack sack : sacks) {
            Sack same = new Sack(sack.number, sack.baker, sack.left, sack.until);
            same.groundAt = sack.groundAt;
            copy.sacks.add(same);
        }
        for (Stone stone : stones) {
            Stone same = new Stone(stone.size);
            same.sack = stone.sack == null ? null : copy.sacks.get(stone.sack.number);
            copy.stones.add(same);
        }
        System.arraycopy(winds, 0, copy.winds, 0, 12);
        copy.rule = rule;
        copy.isTakingOff = isTakingOff;
        copy.hour = hour;
        copy.changes = changes;
        return copy;
    }

    private SlowMill after(int hours) {
        SlowMill copy = copy();
        for (int i = 0; i < hours; i++) {
            copy.oneHour();
        }
        return copy;
    }

    /** The sacks that are not ground, in the order of the rule. */
    private List<Sack> queue() {
        List<Sack> queue = new ArrayList<>();
        for (Sack sack : sacks) {
            if (sack.left > 0) {
                queue.add(sack);
            }
        }
        Comparator<Sack> byNumber = Comparator.comparingInt(s -> s.number);
        Comparator<Sack> byHours = Comparator.comparingInt(s -> s.until);
        Comparator<Sack> byLeft = Comparator.comparingInt(s -> s.left);
        queue.sort(rule == 0 ? byNumber : (rule == 1 ? byHours : byLeft).thenComparing(byNumber));
        return queue;
    }

    private Stone stoneUnder(Sack sack) {
        for (Stone stone : stones) {
            if (stone.sack == sack) {
                return stone;
            }
        }
        return null;
    }

    private int oneHour() {
        List<Sack> queue = queue();
        if (isTakingOff) {
            List<Sack> wanted = queue.subList(0, Math.min(stones.size(), queue.size()));
            for (Stone stone : stones) {
                if (!wanted.contains(stone.sack)) {
                    stone.sack = null;
                }
            }
        }
        for (Stone stone : stones) {
            if (stone.sack == null) {
                for (Sack sack : queue) {
                    if (stoneUnder(sack) == null) {
                        stone.sack = sack;
                        stone.gotAt = hour;
                        changes++;
                        break;
                    }
                }
            }
        }
        int windLeft = wind();
        for (Stone stone : stones) {
            if (stone.sack != null) {
                int most = stone.gotAt == hour ? stone.size - 1 : stone.size;
                int part = Math.min(most, Math.min(stone.sack.left, windLeft));
                stone.sack.left -= part;
                windLeft -= part;
            }
        }
        int ground = wind() - windLeft;
        hour++;
        for (Stone stone : stones) {
            if (stone.sack != null && stone.sack.left == 0) {
                stone.sack.groundAt = hour;
                stone.sack = null;
            }
        }
        return ground;
    }

    private int sum(ToIntFunction<Sack> part) {
        return sacks.stream().mapToInt(part).sum();
    }

    private Sack sackAt(int sack) {
        if (sack < 0 || sack >= sacks.size()) {
            throw new IndexOutOfBoundsException();
        }
        return sacks.get(sack);
    }

    private static void argument(int x, int from, int to) {
        if (x < from || x > to) {
            throw new IllegalArgumentException();
        }
    }

    int addStone(int size) {
        argument(size, 1, 9);
        if (stones.size() == 4) {
            throw new IllegalStateException();
        }
        stones.add(new Stone(size));
        return stones.size() - 1;
    }

    int setWind(int number, int wind) {
        if (number < 0 || number > 11) {
            throw new IndexOutOfBoundsException();
        }
        argument(wind, 0, 20);
        int before = winds[number];
        winds[number] = wind;
        return before;
    }

    int setRule(int rule) {
        argument(rule, 0, 2);
        int before = this.rule;
        this.rule = rule;
        return before;
    }

    boolean setTakingOff(boolean isAllowed) {
        boolean before = isTakingOff;
        isTakingOff = isAllowed;
        return before;
    }

    int bring(int baker, int grain, int until) {
        argument(baker, 0, 7);
        argument(grain, 1, 60);
        argument(until, 1, 200);
        if (sacks.size() == 16) {
            throw new IllegalStateException();
        }
        sacks.add(new Sack(sacks.size(), baker, grain, until));
        return sacks.size() - 1;
    }

    int lift(int sack) {
        Stone stone = stoneUnder(sackAt(sack));
        if (stone == null) {
            throw new IllegalStateException();
        }
        stone.sack = null;
        return stones.indexOf(stone);
    }

    int setUntil(int sack, int until) {
        Sack one = sackAt(sack);
        argument(until, 1, 200);
        int before = one.until;
        one.until = until;
        return before;
    }

    int pass(int hours) {
        argument(hours, 1, 60);
        int ground = 0;
        for (int i = 0; i < hours; i++) {
            ground += oneHour();
        }
        return ground;
    }

    int hour() {
        return hour;
    }

    int stones() {
        return stones.size();
    }

    int sacks() {
        return sacks.size();
    }

    int rule() {
        return rule;
    }

    int wind() {
        return winds[hour % 12];
    }

    int sackOn(int stone) {
        if (stone < 0 || stone >= stones.size()) {
            throw new IndexOutOfBoundsException();
        }
        Sack sack = stones.get(stone).sack;
        return sack == null ? -1 : sack.number;
    }

    int stoneOf(int sack) {
        return stones.indexOf(stoneUnder(sackAt(sack)));
    }

    int leftOf(int sack) {
        return sackAt(sack).left;
    }

    int untilOf(int sack) {
        return sackAt(sack).until;
    }

    int groundAt(int sack) {
        return sackAt(sack).groundAt;
    }

    int ground() {
        return sum(s -> s.left == 0 ? 1 : 0);
    }

    int changes() {
        return changes;
    }

    int first() {
        List<Sack> queue = queue();
        return queue.isEmpty() ? -1 : queue.get(0).number;
    }

    int placeOf(int sack) {
        return queue().indexOf(sackAt(sack));
    }

    int leftFor(int baker) {
        argument(baker, 0, 7);
        return sum(s -> s.baker == baker ? s.left : 0);
    }

    int late() {
        return sum(s -> s.left == 0 && s.groundAt > s.until ? s.groundAt - s.until : 0);
    }

    int willBeGroundAt(int sack) {
        sackAt(sack);
        return after(200).groundAt(sack);
    }

    int spareOf(int sack) {
        int at = willBeGroundAt(sack);
        return at == -1 ? -999 : untilOf(sack) - at;
    }

    int lateWith(int rule, boolean isAllowed) {
        argument(rule, 0, 2);
        SlowMill copy = copy();
        copy.rule = rule;
        copy.isTakingOff = isAllowed;
        SlowMill end = copy.after(200);
        return end.late() + 200 * end.queue().size();
    }

    int bestRule() {
        int least = Math.min(lateWith(0, isTakingOff), Math.min(lateWith(1, isTakingOff), lateWith(2, isTakingOff)));
        return lateWith(0, isTakingOff) == least ? 0 : lateWith(1, isTakingOff) == least ? 1 : 2;
    }

    boolean wouldBeInTime(int grain, int until) {
        argument(grain, 1, 60);
        argument(until, 1, 200);
        if (sacks.size() == 16) {
            return false;
        }
        SlowMill copy = copy();
        int sack = copy.bring(7, grain, until);
        int at = copy.willBeGroundAt(sack);
        return at != -1 && at <= until;
    }

    int groundIn(int hours) {
        argument(hours, 1, 60);
        return sum(s -> s.left) - after(hours).sum(s -> s.left);
    }

    double meanLeft() {
        return queue().stream().mapToInt(s -> s.left).average().orElse(0);
    }

    long digest() {
        List<Integer> numbers = new ArrayList<>(List.of(hour(), stones(), sacks(), rule(), wind(), ground(), changes()));
        numbers.addAll(List.of(first(), late(), bestRule(), groundIn(12)));
        for (int stone = 0; stone < stones(); stone++) {
            numbers.add(sackOn(stone));
        }
        for (int sack = 0; sack < sacks(); sack++) {
            numbers.addAll(List.of(stoneOf(sack), leftOf(sack), untilOf(sack), groundAt(sack), placeOf(sack)));
            numbers.add(willBeGroundAt(sack));
        }
        for (int baker = 0; baker < 8; baker++) {
            numbers.add(leftFor(baker));
        }
        long d = 2281;
        for (int number : numbers) {
            d = d * 31 + number;
        }
        return d;
    }
}
