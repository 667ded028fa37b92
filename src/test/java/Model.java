import java.util.ArrayList;
import java.util.List;
import java.util.regex.Matcher;
import java.util.regex.Pattern;

/** The document told once more, as plainly as can be and in other ways than the class does it. */
final class Model {
    private static final String DIMENSION =
            "[A-%1$c][A-%1$c]=-?[0-9]{1,5}(\\[[+-][0-9]{1,3},[+-][0-9]{1,3}\\])?";
    private static final long FAR = Long.MAX_VALUE / 4;

    private int n = 2;
    private List<int[]> rows = new ArrayList<>();
    private String buffer = "";

    // ---- drawings

    int setFaces(int faces) {
        argument(faces >= 2 && faces <= 12);
        int before = rows.size();
        n = faces;
        rows = new ArrayList<>();
        return before;
    }

    int addDimension(int from, int to, int nominal, int lower, int upper) {
        index(isFace(from) && isFace(to));
        argument(from != to && within(nominal, 99999) && pair(lower, upper));
        state(rows.size() < 20);
        rows.add(new int[] {from, to, nominal, lower, upper});
        return rows.size() - 1;
    }

    int removeDimension(int d) {
        index(isDimension(d));
        rows.remove(d);
        return rows.size();
    }

    int setDeviations(int d, int lower, int upper) {
        index(isDimension(d));
        argument(pair(lower, upper));
        int before = width(d);
        rows.get(d)[3] = lower;
        rows.get(d)[4] = upper;
        return before;
    }

    int general(char grade) {
        argument("fmcv".indexOf(grade) >= 0);
        int changed = 0;
        for (int[] row : rows) {
            if (row[3] == 0 && row[4] == 0) {
                row[4] = tolerance(grade, Math.abs(row[2]));
                row[3] = -row[4];
                changed++;
            }
        }
        return changed;
    }

    private static int tolerance(char grade, int size) {
        int step = size <= 300 ? 0 : size <= 600 ? 1 : size <= 3000 ? 2
                : size <= 12000 ? 3 : size <= 40000 ? 4 : 5;
        String[] table = {"5 5 10 15 20 30", "10 10 20 30 50 80", "20 30 50 80 120 200",
            "50 50 100 150 250 400"};
        return Integer.parseInt(table["fmcv".indexOf(grade)].split(" ")[step]);
    }

    int property(int d, int what) {
        index(isDimension(d));
        argument(what >= 0 && what <= 4);
        return rows.get(d)[what];
    }

    int dimensionCount() {
        return rows.size();
    }

    // ---- input

    int append(int code) {
        argument(code >= 32 && code <= 126);
        state(buffer.length() < 60);
        buffer += (char) code;
        return buffer.length();
    }

    int clearInput() {
        int before = buffer.length();
        buffer = "";
        return before;
    }

    int firstError() {
        for (int end = 1; end <= buffer.length(); end++) {
            if (!mayBegin(buffer.substring(0, end))) {
                return end - 1;
            }
        }
        return buffer.length();
    }

    private Matcher matcher(String text) {
        String one = String.format(DIMENSION, (char) ('A' + n - 1));
        return Pattern.compile(one + "(;" + one + ")*").matcher(text);
    }

    private boolean mayBegin(String text) {
        Matcher matcher = matcher(text);
        if (!matcher.matches() && !matcher.hitEnd()) {
            return false;
        }
        String[] pieces = text.split(";", -1);
        for (String piece : pieces) {
            if (piece.length() >= 2 && piece.charAt(0) == piece.charAt(1)
                    || piece.endsWith("]") && parse(piece)[3] > parse(piece)[4]) {
                return false;
            }
        }
        return pieces.length <= 20;
    }

    private static int[] parse(String piece) {
        String[] numbers = piece.substring(3).split("[\\[,\\]]");
        int lower = numbers.length > 1 ? Integer.parseInt(numbers[1]) : 0;
        int upper = numbers.length > 1 ? Integer.parseInt(numbers[2]) : 0;
        return new int[] {piece.charAt(0) - 'A', piece.charAt(1) - 'A',
            Integer.parseInt(numbers[0]), lower, upper};
    }

    int load() {
        state(firstError() == buffer.length() && matcher(buffer).matches());
        rows = new ArrayList<>();
        for (String piece : buffer.split(";")) {
            rows.add(parse(piece));
        }
        buffer = "";
        return rows.size();
    }

    // ---- missing and doubled dimensions

    boolean isDoubled(int d) {
        index(isDimension(d));
        return joined(rows.get(d)[0], rows.get(d)[1], d, new boolean[n]);
    }

    private boolean joined(int a, int b, int end, boolean[] seen) {
        seen[a] = true;
        boolean found = a == b;
        for (int d = 0; d < end; d++) {
            int[] row = rows.get(d);
            if (row[0] == a && !seen[row[1]]) {
                found |= joined(row[1], b, end, seen);
            }
            if (row[1] == a && !seen[row[0]]) {
                found |= joined(row[0], b, end, seen);
            }
        }
        return found;
    }

    private boolean connected(int a, int b) {
        return joined(a, b, rows.size(), new boolean[n]);
    }

    int missing() {
        int parts = 0;
        for (int face = 0; face < n; face++) {
            parts += partOf(face) == face ? 1 : 0;
        }
        return parts - 1;
    }

    int partOf(int face) {
        index(isFace(face));
        int lowest = 0;
        while (!connected(lowest, face)) {
            lowest++;
        }
        return lowest;
    }

    /** The numbers of the chain, each plus 1, and negative if it is passed backward. */
    private List<Integer> chain(int a, int b, boolean[] seen) {
        if (a == b) {
            return new ArrayList<>();
        }
        seen[a] = true;
        for (int d = 0; d < rows.size(); d++) {
            int[] row = rows.get(d);
            int other = row[0] == a ? row[1] : row[1] == a ? row[0] : a;
            if (!seen[other] && !isDoubled(d)) {
                List<Integer> rest = chain(other, b, seen);
                if (rest != null) {
                    rest.add(0, row[0] == a ? d + 1 : -d - 1);
                    return rest;
                }
            }
        }
        return null;
    }

    private List<Integer> chain(int a, int b) {
        return chain(a, b, new boolean[n]);
    }

    private List<Integer> neededChain(int a, int b) {
        List<Integer> chain = chain(a, b);
        state(chain != null);
        return chain;
    }

    int chainLength(int a, int b) {
        index(isFace(a) && isFace(b));
        List<Integer> chain = chain(a, b);
        return chain == null ? -1 : chain.size();
    }

    int chainDimension(int a, int b, int i) {
        index(isFace(a) && isFace(b));
        List<Integer> chain = chain(a, b);
        index(chain != null && i >= 0 && i < chain.size());
        return Math.abs(chain.get(i)) - 1;
    }

    // ---- gaps

    int gap(int a, int b, int what) {
        index(isFace(a) && isFace(b));
        argument(what >= 0 && what <= 2);
        int sum = 0;
        for (int link : neededChain(a, b)) {
            int[] row = rows.get(Math.abs(link) - 1);
            int[] forward = {row[2], row[2] + row[3], row[2] + row[4]};
            int[] backward = {-forward[0], -forward[2], -forward[1]};
            sum += link > 0 ? forward[what] : backward[what];
        }
        return sum;
    }

    int spread(int a, int b) {
        index(isFace(a) && isFace(b));
        double sum = 0;
        for (int link : neededChain(a, b)) {
            sum += Math.pow(width(Math.abs(link) - 1), 2);
        }
        return (int) Math.floor(Math.sqrt(sum));
    }

    int contributor(int a, int b) {
        index(isFace(a) && isFace(b));
        List<Integer> chain = neededChain(a, b);
        int best = -1;
        for (int d = 0; d < rows.size(); d++) {
            if (holds(chain, d) && (best < 0 || width(d) > width(best))) {
                best = d;
            }
        }
        return best;
    }

    double part(int a, int b, int d) {
        index(isFace(a) && isFace(b) && isDimension(d));
        List<Integer> chain = neededChain(a, b);
        int sum = widths(chain);
        return holds(chain, d) && sum != 0 ? (double) width(d) / sum : 0.0;
    }

    private static boolean holds(List<Integer> chain, int d) {
        return chain.contains(d + 1) || chain.contains(-d - 1);
    }

    private int widths(List<Integer> chain) {
        int sum = 0;
        for (int link : chain) {
            sum += width(Math.abs(link) - 1);
        }
        return sum;
    }

    // ---- agreement

    int misfit(int d) {
        state(isDoubled(d));
        return rows.get(d)[2] - gap(rows.get(d)[0], rows.get(d)[1], 0);
    }

    int contradictions() {
        int found = 0;
        for (int d = 0; d < rows.size(); d++) {
            int[] row = rows.get(d);
            if (isDoubled(d) && (row[2] + row[4] < gap(row[0], row[1], 1)
                    || row[2] + row[3] > gap(row[0], row[1], 2))) {
                found++;
            }
        }
        return found;
    }

    /** The greatest positions behind one face, by n rounds over all limits; null if they sink. */
    private long[] positions(int start) {
        long[] position = new long[n];
        java.util.Arrays.fill(position, FAR);
        position[start] = 0;
        for (int round = 0; round < n; round++) {
            if (!lowered(position)) {
                return position;
            }
        }
        return null;
    }

    private boolean lowered(long[] position) {
        boolean changed = false;
        for (int[] row : rows) {
            long a = position[row[0]];
            long b = position[row[1]];
            if (a != FAR && a + row[2] + row[4] < b) {
                position[row[1]] = a + row[2] + row[4];
                changed = true;
            }
            if (b != FAR && b - row[2] - row[3] < position[row[0]]) {
                position[row[0]] = b - row[2] - row[3];
                changed = true;
            }
        }
        return changed;
    }

    boolean isConsistent() {
        for (int face = 0; face < n; face++) {
            if (positions(face) == null) {
                return false;
            }
        }
        return true;
    }

    int tight(int a, int b, boolean upper) {
        index(isFace(a) && isFace(b));
        state(connected(a, b) && isConsistent());
        return (int) (upper ? positions(a)[b] : -positions(b)[a]);
    }

    // ---- changes

    int transfer(int d, int datum) {
        index(isDimension(d) && isFace(datum));
        int[] row = rows.get(d);
        argument(datum != row[0] && datum != row[1]);
        state(!isDoubled(d));
        state(!holds(neededChain(datum, row[0]), d));
        int nominal = gap(datum, row[0], 0) + row[2];
        int low = row[2] + row[3] + gap(datum, row[0], 2);
        int high = row[2] + row[4] + gap(datum, row[0], 1);
        state(low <= high && within(nominal, 99999));
        state(within(low - nominal, 999) && within(high - nominal, 999));
        rows.set(d, new int[] {datum, row[1], nominal, low - nominal, high - nominal});
        return high - low;
    }

    int distribute(int a, int b, int width) {
        index(isFace(a) && isFace(b));
        argument(width >= 0 && width <= 1998);
        List<Integer> chain = neededChain(a, b);
        int sum = widths(chain);
        state(sum != 0);
        int[] share = new int[rows.size()];
        int given = 0;
        for (int d = 0; d < share.length; d++) {
            share[d] = holds(chain, d) ? (int) ((long) width * width(d) / sum) : 0;
            given += share[d];
        }
        for (int d = 0; given < width; d = (d + 1) % share.length) {
            if (holds(chain, d)) {
                share[d]++;
                given++;
            }
        }
        return setWidths(chain, share);
    }

    private int setWidths(List<Integer> chain, int[] share) {
        List<int[]> changed = new ArrayList<>();
        int count = 0;
        for (int d = 0; d < share.length; d++) {
            int[] row = rows.get(d).clone();
            if (holds(chain, d) && share[d] != width(d)) {
                row[3] = (int) Math.floor((row[3] + row[4] - share[d]) / 2.0);
                row[4] = row[3] + share[d];
                state(within(row[3], 999) && within(row[4], 999));
                count++;
            }
            changed.add(row);
        }
        rows = changed;
        return count;
    }

    long digest() {
        List<Long> values = new ArrayList<>();
        add(values, n, rows.size());
        for (int d = 0; d < rows.size(); d++) {
            add(values, rows.get(d));
            add(values, isDoubled(d) ? 1 : 0);
        }
        for (int face = 0; face < n; face++) {
            add(values, partOf(face));
        }
        boolean consistent = isConsistent();
        add(values, contradictions(), consistent ? 1 : 0);
        for (int b = 1; b < n; b++) {
            if (connected(0, b)) {
                add(values, gap(0, b, 0), gap(0, b, 1), gap(0, b, 2), spread(0, b),
                        contributor(0, b));
                if (consistent) {
                    add(values, tight(0, b, false), tight(0, b, true));
                }
            }
        }
        add(values, buffer.length());
        add(values, buffer.chars().toArray());
        long hash = 1861;
        for (long value : values) {
            hash = 31 * hash + value;
        }
        return hash;
    }

    private static void add(List<Long> values, int... more) {
        for (int value : more) {
            values.add((long) value);
        }
    }

    // ---- tests of arguments

    private boolean isFace(int face) {
        return face >= 0 && face < n;
    }

    private boolean isDimension(int d) {
        return d >= 0 && d < rows.size();
    }

    private int width(int d) {
        return rows.get(d)[4] - rows.get(d)[3];
    }

    private static boolean within(int value, int most) {
        return value >= -most && value <= most;
    }

    private static boolean pair(int lower, int upper) {
        return within(lower, 999) && within(upper, 999) && lower <= upper;
    }

    private static void index(boolean holds) {
        if (!holds) {
            throw new IndexOutOfBoundsException();
        }
    }

    private static void argument(boolean holds) {
        if (!holds) {
            throw new IllegalArgumentException();
        }
    }

    private static void state(boolean holds) {
        if (!holds) {
            throw new IllegalStateException();
        }
    }
}
