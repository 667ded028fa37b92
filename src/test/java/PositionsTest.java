import java.util.Random;

/** Consistency and tight limits of small drawings, by trying all integer positions of 4 faces. */
public final class PositionsTest {
    private static final Check CHECK = new Check("positions");
    private static final int FACES = 4;
    /** Dimensions reach at most 4, and a chain has at most 3 of them. */
    private static final int REACH = 12;

    public static void main(String[] args) {
        Random random = new Random(7);
        for (int round = 0; round < 1500; round++) {
            DimensionChecker x = new DimensionChecker();
            x.setFaces(FACES);
            int count = 3 + random.nextInt(4);
            for (int d = 0; d < count; d++) {
                int from = random.nextInt(FACES);
                int to = (from + 1 + random.nextInt(FACES - 1)) % FACES;
                int lower = random.nextInt(3) - 2;
                x.addDimension(from, to, random.nextInt(5) - 2, lower, lower + random.nextInt(3));
            }
            if (x.missing() == 0) {
                compare("drawing " + round, x);
            }
        }
        CHECK.end();
    }

    private static void compare(String drawing, DimensionChecker x) {
        int[][] least = new int[FACES][FACES];
        int[][] greatest = new int[FACES][FACES];
        boolean consistent = tryAll(x, least, greatest);
        CHECK.due(drawing + ": isConsistent", consistent, () -> x.isConsistent());
        for (int a = 0; a < FACES; a++) {
            for (int b = 0; b < FACES; b++) {
                int from = a;
                int to = b;
                Object none = Check.thrown(IllegalStateException.class);
                CHECK.due(drawing + ": tight " + a + " " + b + " false",
                        consistent ? least[a][b] : none, () -> x.tight(from, to, false));
                CHECK.due(drawing + ": tight " + a + " " + b + " true",
                        consistent ? greatest[a][b] : none, () -> x.tight(from, to, true));
            }
        }
    }

    private static boolean tryAll(DimensionChecker x, int[][] least, int[][] greatest) {
        for (int a = 0; a < FACES; a++) {
            java.util.Arrays.fill(least[a], Integer.MAX_VALUE);
            java.util.Arrays.fill(greatest[a], Integer.MIN_VALUE);
        }
        int[][] rows = new int[x.dimensionCount()][5];
        for (int d = 0; d < rows.length; d++) {
            for (int what = 0; what < 5; what++) {
                rows[d][what] = x.property(d, what);
            }
        }
        boolean found = false;
        int[] at = new int[FACES];
        for (at[1] = -REACH; at[1] <= REACH; at[1]++) {
            for (at[2] = -REACH; at[2] <= REACH; at[2]++) {
                for (at[3] = -REACH; at[3] <= REACH; at[3]++) {
                    if (allTrue(rows, at)) {
                        found = true;
                        widen(at, least, greatest);
                    }
                }
            }
        }
        return found;
    }

    private static boolean allTrue(int[][] rows, int[] at) {
        for (int[] row : rows) {
            int gap = at[row[1]] - at[row[0]];
            if (gap < row[2] + row[3] || gap > row[2] + row[4]) {
                return false;
            }
        }
        return true;
    }

    private static void widen(int[] at, int[][] least, int[][] greatest) {
        for (int a = 0; a < FACES; a++) {
            for (int b = 0; b < FACES; b++) {
                least[a][b] = Math.min(least[a][b], at[b] - at[a]);
                greatest[a][b] = Math.max(greatest[a][b], at[b] - at[a]);
            }
        }
    }
}
