import java.math.BigInteger;
import java.util.ArrayList;
import java.util.HashMap;
import java.util.List;
import java.util.Map;

/**
 * FEWEST for every way in which five STONES can be OVER one another (4231 of them): what is left
 * is worked out with the set of all rows that fit, one bit for each of the 120.
 */
public final class SortTest {
    private static final int MANY = 5;
    private static final int FIRST = 3;
    private final List<int[]> rows = new ArrayList<>();
    private final BigInteger[][] ahead = new BigInteger[MANY][MANY];
    private final Map<BigInteger, Integer> needed = new HashMap<>();
    private int wrong = 0;

    private void write(int[] row, int length) {
        if (length == MANY) {
            rows.add(row.clone());
            return;
        }
        for (int stone = 0; stone < MANY; stone++) {
            boolean used = false;
            for (int i = 0; i < length; i++) {
                used |= row[i] == stone;
            }
            if (!used) {
                row[length] = stone;
                write(row, length + 1);
            }
        }
    }

    private void compare() {
        for (int a = 0; a < MANY; a++) {
            for (int b = 0; b < MANY; b++) {
                ahead[a][b] = BigInteger.ZERO;
                for (int r = 0; r < rows.size(); r++) {
                    int first = -1;
                    for (int stone : rows.get(r)) {
                        first = first < 0 && (stone == a || stone == b) ? stone : first;
                    }
                    ahead[a][b] = first == a ? ahead[a][b].setBit(r) : ahead[a][b];
                }
            }
        }
    }

    private int need(BigInteger left) {
        Integer before = needed.get(left);
        if (before != null) {
            return before;
        }
        int least = left.bitCount() == 1 ? 0 : 99;
        for (int a = 0; a < MANY; a++) {
            for (int b = a + 1; b < MANY; b++) {
                least = Math.min(least, needWith(left, a, b));
            }
        }
        needed.put(left, least);
        return least;
    }

    private int needWith(BigInteger left, int a, int b) {
        BigInteger one = left.and(ahead[a][b]);
        BigInteger other = left.and(ahead[b][a]);
        return one.signum() == 0 || other.signum() == 0 ? 99 : 1 + Math.max(need(one), need(other));
    }

    private int firstTrial(BigInteger left) {
        for (int a = 0; a < MANY; a++) {
            for (int b = a + 1; b < MANY; b++) {
                if (left.bitCount() > 1 && needWith(left, a, b) == need(left)) {
                    return 12 * (FIRST + a) + FIRST + b;
                }
            }
        }
        return -1;
    }

    /** Stones 3 to 7 of nine; each that is above another in all rows is told to be. */
    private void ask(BigInteger left) {
        ScratchLadder x = new ScratchLadder();
        for (int i = 0; i < 9; i++) {
            x.stone(i, 1, 1);
        }
        for (int a = 0; a < MANY; a++) {
            for (int b = 0; b < MANY; b++) {
                if (a != b && left.andNot(ahead[a][b]).signum() == 0) {
                    x.feed(FIRST + a << 24 | FIRST + b << 16, 1 << 16, 0, 0, 0);
                    x.end(7);
                    x.row();
                }
            }
        }
        int bits = (1 << MANY) - 1 << FIRST;
        int trials = x.fewest(bits, 0);
        int first = x.fewest(bits, 1);
        if (trials != need(left) || first != firstTrial(left)) {
            wrong++;
            System.out.println(left + ": " + trials + " trials, " + first + " first; due are "
                    + need(left) + ", " + firstTrial(left));
        }
    }

    public static void main(String[] args) {
        SortTest test = new SortTest();
        test.write(new int[MANY], 0);
        test.compare();
        BigInteger all = BigInteger.ONE.shiftLeft(test.rows.size()).subtract(BigInteger.ONE);
        test.need(all);
        List<BigInteger> states = new ArrayList<>(test.needed.keySet());
        for (BigInteger left : states) {
            test.ask(left);
        }
        System.out.println(states.size() + " states of five stones, " + test.wrong + " of them wrong");
        if (test.wrong > 0 || states.size() != 4231) {
            System.exit(1);
        }
    }
}
