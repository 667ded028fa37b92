import java.util.Arrays;

/**
 * Checks the dimensions of a technical drawing along one axis. Lengths are integers, in hundredths
 * of a millimetre; faces and dimensions are numbered from 0.
 */
public final class DimensionChecker {
    /** There is no such number. */
    public static final int NONE = -1;

    private static final int MIN_FACES = 2;
    private static final int MAX_FACES = 12;
    private static final int MAX_DIMENSIONS = 20;
    private static final int MAX_NOMINAL = 99999;
    private static final int MAX_DEVIATION = 999;
    private static final int MAX_WIDTH = 1998;
    private static final int MAX_INPUT = 60;
    private static final int FIRST_CODE = 32;
    private static final int LAST_CODE = 126;

    private static final int[] TOLERANCE_STEPS = {300, 600, 3000, 12000, 40000};
    private static final int[] FINE = {5, 5, 10, 15, 20, 30};
    private static final int[] MEDIUM = {10, 10, 20, 30, 50, 80};
    private static final int[] COARSE = {20, 30, 50, 80, 120, 200};
    private static final int[] VERY_COARSE = {50, 50, 100, 150, 250, 400};

    private static final long HASH_START = 1861L;

    private final Drawing drawing;
    private final Dimensions rows;
    private final Chain chain;
    private final Shares shares;
    private final TightLimits limits;
    private final ListReader reader;
    private final int[] input;
    private int inputLength;

    public DimensionChecker() {
        drawing = new Drawing(MIN_FACES);
        rows = drawing.rows;
        chain = new Chain(drawing);
        shares = new Shares(chain);
        limits = new TightLimits(drawing);
        reader = new ListReader();
        input = new int[MAX_INPUT];
        inputLength = 0;
    }

    // ---- drawings

    public int setFaces(int n) throws IllegalArgumentException {
        if (n < MIN_FACES || n > MAX_FACES) {
            throw new IllegalArgumentException("a drawing has 2 to 12 faces");
        }
        int before = rows.count;
        drawing.begin(n);
        return before;
    }

    public int addDimension(int from, int to, int nominal, int lower, int upper)
            throws IndexOutOfBoundsException, IllegalArgumentException, IllegalStateException {
        needFaces(from, to);
        if (from == to || !isNominal(nominal) || !areDeviations(lower, upper)) {
            throw new IllegalArgumentException("not a dimension");
        }
        if (rows.count >= MAX_DIMENSIONS) {
            throw new IllegalStateException("there are 20 dimensions");
        }
        int dimension = rows.count;
        rows.count = dimension + 1;
        rows.put(dimension, from, to, nominal, lower, upper);
        drawing.findParts();
        return dimension;
    }

    public int removeDimension(int dimension) throws IndexOutOfBoundsException {
        needDimension(dimension);
        rows.removeAt(dimension);
        drawing.findParts();
        return rows.count;
    }

    public int setDeviations(int dimension, int lower, int upper)
            throws IndexOutOfBoundsException, IllegalArgumentException {
        needDimension(dimension);
        if (!areDeviations(lower, upper)) {
            throw new IllegalArgumentException("not a pair of deviations");
        }
        int before = rows.width(dimension);
        rows.lower[dimension] = lower;
        rows.upper[dimension] = upper;
        return before;
    }

    public int general(char grade) throws IllegalArgumentException {
        switch (grade) {
            case 'f':
                return applyTolerances(FINE);
            case 'm':
                return applyTolerances(MEDIUM);
            case 'c':
                return applyTolerances(COARSE);
            case 'v':
                return applyTolerances(VERY_COARSE);
            default:
                throw new IllegalArgumentException("not a grade");
        }
    }

    public int property(int dimension, int what)
            throws IndexOutOfBoundsException, IllegalArgumentException {
        needDimension(dimension);
        switch (what) {
            case 0:
                return rows.from[dimension];
            case 1:
                return rows.to[dimension];
            case 2:
                return rows.nominal[dimension];
            case 3:
                return rows.lower[dimension];
            case 4:
                return rows.upper[dimension];
            default:
                throw new IllegalArgumentException("not a property");
        }
    }

    public int dimensionCount() {
        return rows.count;
    }

    // ---- input

    public int append(int code) throws IllegalArgumentException, IllegalStateException {
        if (code < FIRST_CODE || code > LAST_CODE) {
            throw new IllegalArgumentException("not a character of the input");
        }
        if (inputLength >= MAX_INPUT) {
            throw new IllegalStateException("the buffer has 60 characters");
        }
        input[inputLength] = code;
        inputLength++;
        return inputLength;
    }

    public int clearInput() {
        int before = inputLength;
        inputLength = 0;
        return before;
    }

    public int firstError() {
        return reader.read(input, inputLength, drawing.faces);
    }

    public int load() throws IllegalStateException {
        int error = reader.read(input, inputLength, drawing.faces);
        if (error < inputLength || !reader.endsList()) {
            throw new IllegalStateException("the buffer is not a list");
        }
        rows.copyAll(reader.rows);
        drawing.findParts();
        inputLength = 0;
        return rows.count;
    }

    // ---- missing and doubled dimensions

    public boolean isDoubled(int dimension) throws IndexOutOfBoundsException {
        needDimension(dimension);
        return drawing.doubled[dimension];
    }

    public int missing() {
        return drawing.partCount() - 1;
    }

    public int partOf(int face) throws IndexOutOfBoundsException {
        needFace(face);
        return drawing.lowestFace[face];
    }

    public int chainLength(int from, int to) throws IndexOutOfBoundsException {
        needFaces(from, to);
        return chain.find(from, to) ? chain.length : NONE;
    }

    public int chainDimension(int from, int to, int index) throws IndexOutOfBoundsException {
        needFaces(from, to);
        if (!chain.find(from, to) || index < 0 || index >= chain.length) {
            throw new IndexOutOfBoundsException("the chain has no such dimension");
        }
        return chain.links[index];
    }

    // ---- gaps

    public int gap(int from, int to, int what)
            throws IndexOutOfBoundsException, IllegalArgumentException, IllegalStateException {
        needFaces(from, to);
        if (what < 0 || what > 2) {
            throw new IllegalArgumentException("not a kind of gap");
        }
        needChain(from, to);
        if (what == 0) {
            return chain.nominal;
        }
        return what == 1 ? chain.least : chain.greatest;
    }

    public int spread(int from, int to) throws IndexOutOfBoundsException, IllegalStateException {
        needFaces(from, to);
        needChain(from, to);
        return chain.rootOfSquares();
    }

    public int contributor(int from, int to)
            throws IndexOutOfBoundsException, IllegalStateException {
        needFaces(from, to);
        needChain(from, to);
        return chain.widest();
    }

    public double part(int from, int to, int dimension)
            throws IndexOutOfBoundsException, IllegalStateException {
        needFaces(from, to);
        needDimension(dimension);
        needChain(from, to);
        int sum = chain.widthSum();
        if (sum == 0 || !chain.holds(dimension)) {
            return 0.0;
        }
        return (double) rows.width(dimension) / sum;
    }

    // ---- agreement

    public int misfit(int dimension) throws IndexOutOfBoundsException, IllegalStateException {
        needDimension(dimension);
        if (!drawing.doubled[dimension]) {
            throw new IllegalStateException("the dimension is not doubled");
        }
        chain.find(rows.from[dimension], rows.to[dimension]);
        return rows.nominal[dimension] - chain.nominal;
    }

    public int contradictions() {
        int found = 0;
        for (int d = 0; d < rows.count; d++) {
            if (drawing.doubled[d] && contradictsChain(d)) {
                found++;
            }
        }
        return found;
    }

    public boolean isConsistent() {
        return limits.settle();
    }

    public int tight(int from, int to, boolean upper)
            throws IndexOutOfBoundsException, IllegalStateException {
        needFaces(from, to);
        if (drawing.lowestFace[from] != drawing.lowestFace[to]) {
            throw new IllegalStateException("the faces are not connected");
        }
        if (!limits.settle()) {
            throw new IllegalStateException("the drawing is not consistent");
        }
        return upper ? limits.greatestGap(from, to) : limits.leastGap(from, to);
    }

    // ---- changes

    public int transfer(int dimension, int datum)
            throws IndexOutOfBoundsException, IllegalArgumentException, IllegalStateException {
        needDimension(dimension);
        needFace(datum);
        int from = rows.from[dimension];
        int to = rows.to[dimension];
        if (datum == from || datum == to) {
            throw new IllegalArgumentException("the dimension joins the datum");
        }
        needChain(datum, from);
        if (drawing.doubled[dimension] || chain.holds(dimension)) {
            throw new IllegalStateException("the dimension can't lead from the datum");
        }
        // The document adds limits; with the new nominal value taken off, these are deviations.
        int nominal = chain.nominal + rows.nominal[dimension];
        int lower = rows.lower[dimension] + chain.greatest - chain.nominal;
        int upper = rows.upper[dimension] + chain.least - chain.nominal;
        if (!isNominal(nominal) || !areDeviations(lower, upper)) {
            throw new IllegalStateException("the new dimension would be out of range");
        }
        rows.put(dimension, datum, to, nominal, lower, upper);
        drawing.findParts();
        return upper - lower;
    }

    public int distribute(int from, int to, int width)
            throws IndexOutOfBoundsException, IllegalArgumentException, IllegalStateException {
        needFaces(from, to);
        if (width < 0 || width > MAX_WIDTH) {
            throw new IllegalArgumentException("the width is not 0 to 1998");
        }
        needChain(from, to);
        if (!shares.divide(width) || !shares.fit()) {
            throw new IllegalStateException("the width can't be shared");
        }
        return shares.apply();
    }

    public long digest() {
        boolean consistent = limits.settle();
        long hash = mix(HASH_START, drawing.faces);
        hash = mixDimensions(hash);
        hash = mixParts(hash);
        hash = mix(hash, contradictions());
        hash = mix(hash, consistent ? 1 : 0);
        hash = mixGaps(hash, consistent);
        return mixInput(hash);
    }

    // ---- helpers of the calls above

    private void needFace(int face) {
        if (face < 0 || face >= drawing.faces) {
            throw new IndexOutOfBoundsException("not a face");
        }
    }

    private void needFaces(int from, int to) {
        needFace(from);
        needFace(to);
    }

    private void needDimension(int dimension) {
        if (dimension < 0 || dimension >= rows.count) {
            throw new IndexOutOfBoundsException("not a dimension");
        }
    }

    private void needChain(int from, int to) {
        if (!chain.find(from, to)) {
            throw new IllegalStateException("the faces are not connected");
        }
    }

    private static boolean isNominal(int nominal) {
        return nominal >= -MAX_NOMINAL && nominal <= MAX_NOMINAL;
    }

    private static boolean areDeviations(int lower, int upper) {
        return lower >= -MAX_DEVIATION && lower <= upper && upper <= MAX_DEVIATION;
    }

    private int applyTolerances(int[] tolerances) {
        int changed = 0;
        for (int d = 0; d < rows.count; d++) {
            if (rows.lower[d] == 0 && rows.upper[d] == 0) {
                int tolerance = tolerances[toleranceColumn(rows.nominal[d])];
                rows.lower[d] = -tolerance;
                rows.upper[d] = tolerance;
                changed++;
            }
        }
        return changed;
    }

    private static int toleranceColumn(int nominal) {
        int size = Math.abs(nominal);
        int column = 0;
        while (column < TOLERANCE_STEPS.length && size > TOLERANCE_STEPS[column]) {
            column++;
        }
        return column;
    }

    private boolean contradictsChain(int dimension) {
        chain.find(rows.from[dimension], rows.to[dimension]);
        return rows.greatestLimit(dimension) < chain.least
                || rows.leastLimit(dimension) > chain.greatest;
    }

    private static long mix(long hash, long value) {
        return 31L * hash + value;
    }

    private long mixDimensions(long start) {
        long hash = mix(start, rows.count);
        for (int d = 0; d < rows.count; d++) {
            hash = mix(hash, rows.from[d]);
            hash = mix(hash, rows.to[d]);
            hash = mix(hash, rows.nominal[d]);
            hash = mix(hash, rows.lower[d]);
            hash = mix(hash, rows.upper[d]);
            hash = mix(hash, drawing.doubled[d] ? 1 : 0);
        }
        return hash;
    }

    private long mixParts(long start) {
        long hash = start;
        for (int face = 0; face < drawing.faces; face++) {
            hash = mix(hash, drawing.lowestFace[face]);
        }
        return hash;
    }

    private long mixGaps(long start, boolean consistent) {
        long hash = start;
        for (int face = 1; face < drawing.faces; face++) {
            if (chain.find(0, face)) {
                hash = mixChain(hash);
                if (consistent) {
                    hash = mix(hash, limits.leastGap(0, face));
                    hash = mix(hash, limits.greatestGap(0, face));
                }
            }
        }
        return hash;
    }

    private long mixChain(long start) {
        long hash = mix(start, chain.nominal);
        hash = mix(hash, chain.least);
        hash = mix(hash, chain.greatest);
        hash = mix(hash, chain.rootOfSquares());
        return mix(hash, chain.widest());
    }

    private long mixInput(long start) {
        long hash = mix(start, inputLength);
        for (int i = 0; i < inputLength; i++) {
            hash = mix(hash, input[i]);
        }
        return hash;
    }

    /** A list of dimensions, in the order of their numbers. */
    private static final class Dimensions {
        final int[] from = new int[MAX_DIMENSIONS];
        final int[] to = new int[MAX_DIMENSIONS];
        final int[] nominal = new int[MAX_DIMENSIONS];
        final int[] lower = new int[MAX_DIMENSIONS];
        final int[] upper = new int[MAX_DIMENSIONS];
        int count = 0;

        void put(int d, int start, int end, int value, int low, int high) {
            from[d] = start;
            to[d] = end;
            nominal[d] = value;
            lower[d] = low;
            upper[d] = high;
        }

        void copyRow(int d, Dimensions other, int source) {
            put(d, other.from[source], other.to[source], other.nominal[source],
                    other.lower[source], other.upper[source]);
        }

        void copyAll(Dimensions other) {
            count = other.count;
            for (int d = 0; d < count; d++) {
                copyRow(d, other, d);
            }
        }

        void removeAt(int d) {
            for (int next = d + 1; next < count; next++) {
                copyRow(next - 1, this, next);
            }
            count--;
        }

        int width(int d) {
            return upper[d] - lower[d];
        }

        int leastLimit(int d) {
            return nominal[d] + lower[d];
        }

        int greatestLimit(int d) {
            return nominal[d] + upper[d];
        }
    }

    /** The faces and dimensions; findParts is due after each change of what joins what. */
    private static final class Drawing {
        final Dimensions rows = new Dimensions();
        final int[] lowestFace = new int[MAX_FACES];
        final boolean[] doubled = new boolean[MAX_DIMENSIONS];
        int faces;

        Drawing(int n) {
            begin(n);
        }

        void begin(int n) {
            faces = n;
            rows.count = 0;
            findParts();
        }

        void findParts() {
            for (int face = 0; face < faces; face++) {
                lowestFace[face] = face;
            }
            // Only lower numbers make a dimension doubled, so the order of the numbers matters.
            for (int d = 0; d < rows.count; d++) {
                int a = lowestFace[rows.from[d]];
                int b = lowestFace[rows.to[d]];
                doubled[d] = a == b;
                movePart(Math.max(a, b), Math.min(a, b));
            }
        }

        void movePart(int old, int lowest) {
            for (int face = 0; face < faces; face++) {
                if (lowestFace[face] == old) {
                    lowestFace[face] = lowest;
                }
            }
        }

        int partCount() {
            int parts = 0;
            for (int face = 0; face < faces; face++) {
                if (lowestFace[face] == face) {
                    parts++;
                }
            }
            return parts;
        }
    }

    /** The chain that was last looked for, with its sums; a later change does not reach it. */
    private static final class Chain {
        /** The squares of eleven widths of 1998 sum to less than the square of twice this. */
        static final int HIGHEST_ROOT_BIT = 4096;

        final Drawing drawing;
        final Dimensions rows;
        final int[] wayOn = new int[MAX_FACES];
        final int[] links = new int[MAX_FACES];
        int length = 0;
        int nominal = 0;
        int least = 0;
        int greatest = 0;

        Chain(Drawing drawing) {
            this.drawing = drawing;
            this.rows = drawing.rows;
        }

        /** Returns false if the faces are not connected. */
        boolean find(int from, int to) {
            length = 0;
            nominal = 0;
            least = 0;
            greatest = 0;
            findWaysTo(to);
            int face = from;
            for (int k = 0; k < drawing.faces && face != to && wayOn[face] != NONE; k++) {
                face = pass(wayOn[face], face);
            }
            return face == to;
        }

        /** Ways are searched from the chain's end, so that walking them gives its own order. */
        void findWaysTo(int end) {
            Arrays.fill(wayOn, NONE);
            for (int round = 1; round < drawing.faces; round++) {
                for (int d = 0; d < rows.count; d++) {
                    if (!drawing.doubled[d]) {
                        extendWays(d, end);
                    }
                }
            }
        }

        void extendWays(int d, int end) {
            int a = rows.from[d];
            int b = rows.to[d];
            boolean leadsOnFromA = a == end || wayOn[a] != NONE;
            boolean leadsOnFromB = b == end || wayOn[b] != NONE;
            if (leadsOnFromA && !leadsOnFromB) {
                wayOn[b] = d;
            } else if (leadsOnFromB && !leadsOnFromA) {
                wayOn[a] = d;
            }
        }

        /** Returns the face on the other side. */
        int pass(int d, int face) {
            links[length] = d;
            length++;
            if (rows.from[d] == face) {
                nominal += rows.nominal[d];
                least += rows.leastLimit(d);
                greatest += rows.greatestLimit(d);
                return rows.to[d];
            }
            nominal -= rows.nominal[d];
            least -= rows.greatestLimit(d);
            greatest -= rows.leastLimit(d);
            return rows.from[d];
        }

        boolean holds(int dimension) {
            for (int k = 0; k < length; k++) {
                if (links[k] == dimension) {
                    return true;
                }
            }
            return false;
        }

        int widthSum() {
            int sum = 0;
            for (int k = 0; k < length; k++) {
                sum += rows.width(links[k]);
            }
            return sum;
        }

        int rootOfSquares() {
            int sum = 0;
            for (int k = 0; k < length; k++) {
                int width = rows.width(links[k]);
                sum += width * width;
            }
            int root = 0;
            for (int bit = HIGHEST_ROOT_BIT; bit > 0; bit >>= 1) {
                int next = root + bit;
                if (next * next <= sum) {
                    root = next;
                }
            }
            return root;
        }

        int widest() {
            int best = NONE;
            for (int k = 0; k < length; k++) {
                if (best == NONE || isWider(links[k], best)) {
                    best = links[k];
                }
            }
            return best;
        }

        boolean isWider(int d, int best) {
            int more = rows.width(d) - rows.width(best);
            return more > 0 || more == 0 && d < best;
        }
    }

    /** The new widths of the dimensions of the chain that was last looked for. */
    private static final class Shares {
        final Chain chain;
        final Dimensions rows;
        final int[] newWidth = new int[MAX_DIMENSIONS];

        Shares(Chain chain) {
            this.chain = chain;
            this.rows = chain.rows;
        }

        /** Returns false if there is no present width to be in proportion to. */
        boolean divide(int width) {
            int sum = chain.widthSum();
            if (sum == 0) {
                return false;
            }
            Arrays.fill(newWidth, NONE);
            int rest = width;
            for (int k = 0; k < chain.length; k++) {
                int d = chain.links[k];
                newWidth[d] = width * rows.width(d) / sum;
                rest -= newWidth[d];
            }
            giveRest(rest);
            return true;
        }

        /** Rounding down loses less than 1 for each dimension, so one round gives all of it. */
        void giveRest(int rest) {
            int left = rest;
            for (int d = 0; d < rows.count && left > 0; d++) {
                if (newWidth[d] != NONE) {
                    newWidth[d]++;
                    left--;
                }
            }
        }

        boolean changes(int d) {
            return newWidth[d] != NONE && newWidth[d] != rows.width(d);
        }

        int newLower(int d) {
            return Math.floorDiv(rows.lower[d] + rows.upper[d] - newWidth[d], 2);
        }

        boolean fit() {
            for (int d = 0; d < rows.count; d++) {
                if (changes(d) && !areDeviations(newLower(d), newLower(d) + newWidth[d])) {
                    return false;
                }
            }
            return true;
        }

        /** Returns how many dimensions were changed. */
        int apply() {
            int changed = 0;
            for (int d = 0; d < rows.count; d++) {
                if (changes(d)) {
                    int lower = newLower(d);
                    rows.lower[d] = lower;
                    rows.upper[d] = lower + newWidth[d];
                    changed++;
                }
            }
            return changed;
        }
    }

    /** The greatest gaps that all dimensions together leave, as shortest ways between faces. */
    private static final class TightLimits {
        /** Far beyond what ways of eleven dimensions reach. */
        static final int NO_LIMIT = 1000000000;

        final Drawing drawing;
        final int[] most = new int[MAX_FACES * MAX_FACES];

        TightLimits(Drawing drawing) {
            this.drawing = drawing;
        }

        /** Returns false if the drawing is not consistent; the limits are of no use then. */
        boolean settle() {
            takeDimensions();
            // To stop at the first ring that can't close keeps all sums as small as simple ways.
            for (int middle = 0; middle < drawing.faces; middle++) {
                narrowThrough(middle);
                if (!ringsClose()) {
                    return false;
                }
            }
            return true;
        }

        int greatestGap(int from, int to) {
            return most[cell(from, to)];
        }

        int leastGap(int from, int to) {
            return -most[cell(to, from)];
        }

        static int cell(int from, int to) {
            return from * MAX_FACES + to;
        }

        void takeDimensions() {
            Arrays.fill(most, NO_LIMIT);
            for (int face = 0; face < drawing.faces; face++) {
                most[cell(face, face)] = 0;
            }
            Dimensions rows = drawing.rows;
            for (int d = 0; d < rows.count; d++) {
                narrow(rows.from[d], rows.to[d], rows.greatestLimit(d));
                narrow(rows.to[d], rows.from[d], -rows.leastLimit(d));
            }
        }

        void narrow(int from, int to, int limit) {
            int cell = cell(from, to);
            most[cell] = Math.min(most[cell], limit);
        }

        void narrowThrough(int middle) {
            for (int from = 0; from < drawing.faces; from++) {
                for (int to = 0; to < drawing.faces; to++) {
                    int first = most[cell(from, middle)];
                    int second = most[cell(middle, to)];
                    if (first != NO_LIMIT && second != NO_LIMIT) {
                        narrow(from, to, first + second);
                    }
                }
            }
        }

        boolean ringsClose() {
            for (int face = 0; face < drawing.faces; face++) {
                if (most[cell(face, face)] < 0) {
                    return false;
                }
            }
            return true;
        }
    }

    /** Reads a list of dimensions, a character at a time. */
    private static final class ListReader {
        static final int MAX_NOMINAL_DIGITS = 5;
        static final int MAX_DEVIATION_DIGITS = 3;

        // What is expected next; at the digits also what may follow them.
        static final int FIRST_FACE = 0;
        static final int SECOND_FACE = 1;
        static final int EQUALS_SIGN = 2;
        static final int NOMINAL = 3;
        static final int NOMINAL_DIGITS = 4;
        static final int LOWER_SIGN = 5;
        static final int LOWER_DIGITS = 6;
        static final int UPPER_SIGN = 7;
        static final int UPPER_DIGITS = 8;
        static final int DIMENSION_END = 9;

        final Dimensions rows = new Dimensions();
        int faces = 0;
        int place = FIRST_FACE;
        int row = 0;
        int digits = 0;
        int size = 0;
        boolean negative = false;

        /** Returns the index of the first syntax error; the length if there is none. */
        int read(int[] codes, int length, int faceCount) {
            faces = faceCount;
            rows.count = 0;
            place = FIRST_FACE;
            for (int i = 0; i < length; i++) {
                if (!take(codes[i])) {
                    return i;
                }
            }
            return length;
        }

        /** Tells whether a list may end behind what was read without an error. */
        boolean endsList() {
            return place == DIMENSION_END || place == NOMINAL_DIGITS && digits > 0;
        }

        /** Returns false if the character is not allowed at its place. */
        boolean take(int code) {
            switch (place) {
                case FIRST_FACE:
                    return takeFirstFace(code - 'A');
                case SECOND_FACE:
                    return takeSecondFace(code - 'A');
                case EQUALS_SIGN:
                    return takeSign(code, '=', NOMINAL);
                case NOMINAL:
                    return takeNominalStart(code);
                case NOMINAL_DIGITS:
                    return takeInNominal(code);
                case LOWER_SIGN:
                    return takeDeviationSign(code, LOWER_DIGITS);
                case LOWER_DIGITS:
                    return takeInLower(code);
                case UPPER_SIGN:
                    return takeDeviationSign(code, UPPER_DIGITS);
                case UPPER_DIGITS:
                    return takeInUpper(code);
                default:
                    return takeSemicolon(code);
            }
        }

        boolean takeFirstFace(int face) {
            if (face < 0 || face >= faces || rows.count >= MAX_DIMENSIONS) {
                return false;
            }
            row = rows.count;
            rows.count = row + 1;
            rows.put(row, face, face, 0, 0, 0);
            place = SECOND_FACE;
            return true;
        }

        boolean takeSecondFace(int face) {
            if (face < 0 || face >= faces || face == rows.from[row]) {
                return false;
            }
            rows.to[row] = face;
            place = EQUALS_SIGN;
            return true;
        }

        boolean takeSign(int code, char sign, int next) {
            if (code != sign) {
                return false;
            }
            place = next;
            return true;
        }

        boolean takeNominalStart(int code) {
            beginNumber(code == '-', NOMINAL_DIGITS);
            return code == '-' || takeInNominal(code);
        }

        boolean takeInNominal(int code) {
            if (takeDigit(code, MAX_NOMINAL_DIGITS)) {
                rows.nominal[row] = number();
                return true;
            }
            return digits > 0 && (takeSign(code, '[', LOWER_SIGN) || takeSemicolon(code));
        }

        boolean takeDeviationSign(int code, int next) {
            if (code != '+' && code != '-') {
                return false;
            }
            beginNumber(code == '-', next);
            return true;
        }

        boolean takeInLower(int code) {
            if (takeDigit(code, MAX_DEVIATION_DIGITS)) {
                rows.lower[row] = number();
                return true;
            }
            return digits > 0 && takeSign(code, ',', UPPER_SIGN);
        }

        boolean takeInUpper(int code) {
            if (takeDigit(code, MAX_DEVIATION_DIGITS)) {
                rows.upper[row] = number();
                return true;
            }
            return digits > 0 && rows.width(row) >= 0 && takeSign(code, ']', DIMENSION_END);
        }

        boolean takeSemicolon(int code) {
            return rows.count < MAX_DIMENSIONS && takeSign(code, ';', FIRST_FACE);
        }

        void beginNumber(boolean below, int next) {
            negative = below;
            digits = 0;
            size = 0;
            place = next;
        }

        boolean takeDigit(int code, int most) {
            if (code < '0' || code > '9' || digits >= most) {
                return false;
            }
            digits++;
            size = size * 10 + code - '0';
            return true;
        }

        int number() {
            return negative ? -size : size;
        }
    }
}
