import java.util.Arrays;
import java.util.HashMap;
import java.util.Map;
import java.util.Random;

/**
 * Covers held against a search through all ways: quarter by quarter every number of shifts that could begin there
 * is tried, and of ways that differ only in what no later quarter sees, the one with the fewest shifts is kept, and
 * of those the one with the fewest at its first quarter, then at its second, and so on.
 */
public final class CoverTest {
    private static final int QUARTERS = 16;
    private static final int CASES = 600;
    private static final int MOST_STATES = 20000;
    private static int wrong = 0;

    public static void main(String[] args) {
        Random random = new Random(16);
        int searched = 0;
        while (searched < CASES) {
            int length = 1 + random.nextInt(QUARTERS);
            int most = 1 + random.nextInt(length < 3 || length > 14 ? 9 : 3);
            if (Math.pow(most + 1, Math.min(length - 1, QUARTERS + 1 - length)) <= MOST_STATES) {
                holds(wants(random, most), length);
                searched++;
            }
        }
        System.out.println(wrong == 0 ? searched + " covers are as a search finds them" : wrong + " covers are wrong");
        if (wrong != 0) System.exit(1);
    }

    private static int[] wants(Random random, int most) {
        int[] wants = new int[QUARTERS];
        int quiet = random.nextInt(4);
        for (int q = 0; q < QUARTERS; q++) {
            wants[q] = random.nextInt(4) < quiet ? 0 : random.nextInt(most + 1);
        }
        return wants;
    }

    private static void holds(int[] wants, int length) {
        CallRoom room = new CallRoom();
        for (int q = 0; q < QUARTERS; q++) {
            room.want(q, wants[q]);
        }
        int[] due = fewestAndLatest(wants, length);
        int shifts = room.cover(length);
        int[] got = new int[QUARTERS];
        for (int q = 0; q < QUARTERS; q++) {
            got[q] = room.begins(q);
        }
        if (shifts != Arrays.stream(due).sum() || !Arrays.equals(got, due)) {
            wrong++;
            System.out.println("wants " + Arrays.toString(wants) + " by " + length + ": " + shifts + " "
                + Arrays.toString(got) + ", due is " + Arrays.toString(due));
        }
    }

    private static int[] fewestAndLatest(int[] wants, int length) {
        int most = Arrays.stream(wants).max().orElse(0);
        Map<String, int[]> ways = Map.of("", new int[0]);
        for (int q = 0; q < QUARTERS; q++) {
            Map<String, int[]> longer = new HashMap<>();
            for (int[] way : ways.values()) {
                for (int n = 0; n <= (q + length <= QUARTERS ? most : 0); n++) {
                    int[] next = Arrays.copyOf(way, q + 1);
                    next[q] = n;
                    int[] there = Arrays.copyOfRange(next, Math.max(0, q + 1 - length), q + 1);
                    if (Arrays.stream(there).sum() >= wants[q]) {
                        int[] seen = Arrays.copyOfRange(next, Math.max(0, q + 2 - length), Math.max(q + 1, q + 2 - length));
                        longer.merge(Arrays.toString(seen), next, CoverTest::better);
                    }
                }
            }
            ways = longer;
        }
        return ways.values().stream().reduce(CoverTest::better).orElseThrow();
    }

    private static int[] better(int[] one, int[] other) {
        int fewer = Arrays.stream(one).sum() - Arrays.stream(other).sum();
        return fewer < 0 || fewer == 0 && Arrays.compare(one, other) <= 0 ? one : other;
    }
}
