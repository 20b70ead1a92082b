import java.util.HashMap;
import java.util.Map;
import java.util.Random;

/**
 * ORDERS and BEST of up to twelve STONES, too many for rows written out: worked out from the
 * front with a map, by their definition alone.
 */
public final class TwelveTest {
    private final int stones;
    private final int[][] said;
    private final Map<Integer, Integer> against = new HashMap<>();
    private final Map<Integer, Integer> fitting = new HashMap<>();

    private TwelveTest(int stones, int[][] said) {
        this.stones = stones;
        this.said = said;
    }

    /** How many more are AGAINST the best way on, if these stand ahead. */
    private int least(int ahead) {
        if (ahead == (1 << stones) - 1) {
            return 0;
        }
        Integer before = against.get(ahead);
        if (before != null) {
            return before;
        }
        int least = Integer.MAX_VALUE;
        for (int next = 0; next < stones; next++) {
            if ((ahead & 1 << next) == 0) {
                least = Math.min(least, cost(ahead, next) + least(ahead | 1 << next));
            }
        }
        against.put(ahead, least);
        return least;
    }

    /** How many SAY that the next one is above one that stands ahead already. */
    private int cost(int ahead, int next) {
        int cost = 0;
        for (int other = 0; other < stones; other++) {
            cost += (ahead & 1 << other) != 0 ? said[next][other] : 0;
        }
        return cost;
    }

    private int orders(int ahead) {
        if (ahead == (1 << stones) - 1) {
            return 1;
        }
        Integer before = fitting.get(ahead);
        if (before != null) {
            return before;
        }
        int number = 0;
        for (int next = 0; next < stones; next++) {
            if ((ahead & 1 << next) == 0 && cost(ahead, next) == 0) {
                number += orders(ahead | 1 << next);
            }
        }
        fitting.put(ahead, number);
        return number;
    }

    private static int wrong(int seed) {
        Random random = new Random(seed);
        int stones = 8 + seed % 5;
        int[][] said = new int[stones][stones];
        ScratchLadder x = new ScratchLadder();
        for (int i = 0; i < stones; i++) {
            x.stone(0, 1, 0);
        }
        int trials = random.nextInt(seed % 2 == 0 ? 20 : 121);
        boolean rings = random.nextInt(3) > 0;
        for (int t = 0; t < trials; t++) {
            int a = random.nextInt(stones);
            int b = random.nextInt(stones);
            int left = random.nextInt(4);
            if (a != b && (rings || a > b)) {
                x.feed(a << 24 | b << 16, left << 16, 0, 0, 0);
                x.end(7);
                x.row();
                said[a][b] += left == 1 || left == 2 ? 1 : 0;
            }
        }
        TwelveTest due = new TwelveTest(stones, said);
        int wrong = x.best() == due.least(0) ? 0 : 1;
        int ahead = 0;
        for (int place = 0; place < stones; place++) {
            int first = -1;
            for (int next = stones - 1; next >= 0; next--) {
                if ((ahead & 1 << next) == 0 && due.least(ahead)
                        == due.cost(ahead, next) + due.least(ahead | 1 << next)) {
                    first = next;
                }
            }
            wrong += x.place(place) == first ? 0 : 1;
            ahead |= 1 << first;
        }
        wrong += x.orders() == due.orders(0) ? 0 : 1;
        int a = random.nextInt(stones - 1);
        said[a][stones - 1]++;
        wrong += x.ahead(a, stones - 1) == new TwelveTest(stones, said).orders(0) ? 0 : 1;
        return wrong;
    }

    public static void main(String[] args) {
        int bad = 0;
        for (int seed = 1; seed <= 200; seed++) {
            int wrong = wrong(seed);
            if (wrong > 0) {
                bad++;
                System.out.println("seed " + seed + ": " + wrong + " answers are wrong");
            }
        }
        System.out.println("200 states of 8 to 12 stones, " + bad + " of them wrong");
        if (bad > 0) {
            System.exit(1);
        }
    }
}
