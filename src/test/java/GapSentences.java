import java.util.ArrayList;
import java.util.List;

/** Gaps, and promises 18 to 21. */
final class GapSentences {
    private static final Class<?> INDEX = Check.INDEX;
    private static final Class<?> ARGUMENT = Check.ARGUMENT;
    private static final Class<?> STATE = Check.STATE;

    private GapSentences() {
    }

    static void tell(Sentences s) {
        gaps(s);
        gap(s);
        spread(s);
        contributor(s);
        part(s);
    }

    /** The nominal, the least and the greatest gap. */
    private static void gap(Check check, DimensionChecker x, int from, int to, int... want) {
        for (int what = 0; what < 3; what++) {
            int asked = what;
            check.due("gap(" + from + ", " + to + ", " + what + ")", want[what],
                    () -> x.gap(from, to, asked));
        }
    }

    /** A path whose dimensions have these widths. */
    private static DimensionChecker widths(int... widths) {
        DimensionChecker x = Drawings.faces(widths.length + 1);
        for (int face = 0; face < widths.length; face++) {
            int lower = -(widths[face] / 2);
            x.addDimension(face, face + 1, 5, lower, lower + widths[face]);
        }
        return x;
    }

    // ---- gaps

    private static void gaps(Sentences s) {
        s.section("Description");
        s.explains("Gaps.");
        s.test("The gap from face a to face b is the position of b minus the position of a.",
                GapSentences::positions);
        s.test("passed from its first to its second face counts with its nominal value and its"
                + " limits n, l and u", GapSentences::passedForward);
        s.test("passed from its second to its first face counts with -n, and with the limits -u"
                + " and -l", GapSentences::passedBackward);
        s.test("The nominal gap is the sum of the nominal values", GapSentences::nominalSums);
        s.test("the least gap is the sum of the lower limits", GapSentences::leastSums);
        s.test("the greatest gap is the sum of the upper limits", GapSentences::greatestSums);
        s.test("the square root of the sum of the squares of the widths",
                GapSentences::rootOfSquares);
        s.test("of its chain, rounded down", GapSentences::roundedDown);
        s.test("rounded down", GapSentences::roundedDownEverywhere);
    }

    private static void positions(Check check) {
        DimensionChecker x = Drawings.loaded(3, "AB=100;BC=-30");
        check.due("from A to B", 100, () -> x.gap(0, 1, 0));
        check.due("from B to A", -100, () -> x.gap(1, 0, 0));
        check.due("from A to C", 70, () -> x.gap(0, 2, 0));
        check.due("from C to A", -70, () -> x.gap(2, 0, 0));
        check.due("from A to A", 0, () -> x.gap(0, 0, 0));
    }

    private static void passedForward(Check check) {
        gap(check, Drawings.loaded(2, "AB=100[-5,+2]"), 0, 1, 100, 95, 102);
        gap(check, Drawings.loaded(2, "AB=-100[-5,-2]"), 0, 1, -100, -105, -102);
        gap(check, Drawings.loaded(2, "AB=0[+3,+7]"), 0, 1, 0, 3, 7);
    }

    private static void passedBackward(Check check) {
        gap(check, Drawings.loaded(2, "AB=100[-5,+2]"), 1, 0, -100, -102, -95);
        gap(check, Drawings.loaded(2, "BA=-100[-5,-2]"), 0, 1, 100, 102, 105);
        gap(check, Drawings.loaded(2, "AB=0[+3,+7]"), 1, 0, 0, -7, -3);
        gap(check, Drawings.loaded(3, "AB=100[-5,+2];CB=30[-1,+7]"), 0, 2, 70, 58, 73);
    }

    private static void nominalSums(Check check) {
        DimensionChecker far = Drawings.path(12, 99999, -999, 999);
        check.due("the greatest", 11 * 99999, () -> far.gap(0, 11, 0));
        check.due("the least", -11 * 99999, () -> far.gap(11, 0, 0));
        check.due("of an empty chain", 0, () -> far.gap(11, 11, 0));
        check.due("of one dimension", 99999, () -> far.gap(5, 6, 0));
    }

    private static void leastSums(Check check) {
        DimensionChecker low = Drawings.path(12, -99999, -999, -999);
        check.due("the least of all", -11 * 100998, () -> low.gap(0, 11, 1));
        DimensionChecker high = Drawings.path(12, 99999, 999, 999);
        check.due("the greatest of all", 11 * 100998, () -> high.gap(0, 11, 1));
        check.due("of an empty chain", 0, () -> high.gap(0, 0, 1));
    }

    private static void greatestSums(Check check) {
        DimensionChecker high = Drawings.path(12, 99999, -999, 999);
        check.due("the greatest of all", 11 * 100998, () -> high.gap(0, 11, 2));
        check.due("backward", -11 * 99000, () -> high.gap(11, 0, 2));
        DimensionChecker low = Drawings.path(12, -99999, -999, -999);
        check.due("the least of all", -11 * 100998, () -> low.gap(0, 11, 2));
        check.due("of an empty chain", 0, () -> low.gap(0, 0, 2));
    }

    private static void rootOfSquares(Check check) {
        for (int w = 0; w <= 1998; w++) {
            int width = w;
            check.due("one width of " + w, w, () -> widths(width).spread(0, 1));
        }
        check.due("3 and 4", 5, () -> widths(3, 4).spread(0, 2));
        check.due("2, 3 and 6, backward", 7, () -> widths(2, 3, 6).spread(3, 0));
        check.due("1998 nine times", 3 * 1998,
                () -> Drawings.path(10, 5, -999, 999).spread(0, 9));
        check.due("an empty chain", 0, () -> widths(3, 4).spread(1, 1));
    }

    private static void roundedDown(Check check) {
        check.due("of 2", 1, () -> widths(1, 1).spread(0, 2));
        check.due("of 3", 1, () -> widths(1, 1, 1).spread(0, 3));
        check.due("of 4", 2, () -> widths(1, 1, 1, 1).spread(0, 4));
        check.due("of 5", 2, () -> widths(1, 2).spread(0, 2));
        check.due("of 8", 2, () -> widths(2, 2).spread(0, 2));
        check.due("of 24", 4, () -> widths(2, 4, 2).spread(0, 3));
        check.due("of 26", 5, () -> widths(5, 1).spread(0, 2));
        check.due("of 1998 * 1998 + 1", 1998, () -> widths(1998, 1).spread(0, 2));
        // 1998 * 1998 + 63 * 63 is 28 less than 1999 * 1999; with 64 * 64 it is 99 more.
        check.due("below 1999 * 1999", 1998, () -> widths(1998, 63).spread(0, 2));
        check.due("above 1999 * 1999", 1999, () -> widths(1998, 64).spread(0, 2));
        check.due("the greatest of all", 6626,
                () -> Drawings.path(12, 5, -999, 999).spread(0, 11));
    }

    /** Each root, and the root of what is 1 less than its square, where eleven widths reach it. */
    private static void roundedDownEverywhere(Check check) {
        int reached = 0;
        for (int root = 1; root <= 6626; root++) {
            int[] exact = squares(root * root);
            int[] less = squares(root * root - 1);
            int due = root;
            if (exact.length <= 11 && less.length > 0 && less.length <= 11) {
                check.due("of a square", due, () -> widths(exact).spread(0, exact.length));
                check.due("of 1 less", due - 1, () -> widths(less).spread(0, less.length));
                reached++;
            }
        }
        check.compare("most roots are reached", true, reached > 5000);
    }

    /** Widths whose squares sum to this, the greatest first. */
    private static int[] squares(int sum) {
        List<Integer> widths = new ArrayList<>();
        int left = sum;
        while (left > 0) {
            int width = (int) Math.min(1998, Math.sqrt(left));
            widths.add(width);
            left -= width * width;
        }
        return widths.stream().mapToInt(Integer::intValue).toArray();
    }

    // ---- promise 18

    private static void gap(Sentences s) {
        s.section("Promise 18");
        s.explains("Returns the nominal, the least or the greatest gap between two faces.");
        s.test("0 for the nominal, 1 for the least, 2 for the greatest gap",
                GapSentences::kindsOfGap);
        s.explains("Returns the gap.");
        s.test("if a face does not exist", GapSentences::gapOfNoFace);
        s.test("if what is not 0 to 2", GapSentences::noKind);
        s.test("if the faces are not connected", GapSentences::gapNotConnected);
    }

    private static void kindsOfGap(Check check) {
        gap(check, Drawings.path(12, -7, -2, 5), 0, 11, -77, -99, -22);
        gap(check, Drawings.path(12, -7, -2, 5), 11, 0, 77, 22, 99);
        gap(check, new DimensionChecker(), 1, 1, 0, 0, 0);
    }

    private static void gapOfNoFace(Check check) {
        DimensionChecker x = Drawings.path(12, 5, 0, 0);
        check.facesRefused("12 faces", x, 12, (a, b) -> x.gap(a, b, 0));
        DimensionChecker y = Drawings.loaded(2, "AB=1");
        check.facesRefused("2 faces", y, 2, (a, b) -> y.gap(a, b, 2));
    }

    private static void noKind(Check check) {
        DimensionChecker x = Drawings.loaded(2, "AB=1");
        for (int what : new int[] {-1, 3, 4, Integer.MIN_VALUE, Integer.MAX_VALUE}) {
            check.refused("what " + what, ARGUMENT, x, () -> x.gap(0, 1, what));
            check.refused("to itself, what " + what, ARGUMENT, x, () -> x.gap(0, 0, what));
        }
    }

    private static void notConnected(Check check, Check.OfTwo call, DimensionChecker x) {
        check.refused("two parts", STATE, x, () -> call.run(0, 2));
        check.refused("two parts, backward", STATE, x, () -> call.run(3, 1));
        check.refused("to a face alone", STATE, x, () -> call.run(0, 11));
        check.refused("from a face alone", STATE, x, () -> call.run(11, 3));
        check.refused("between two alone", STATE, x, () -> call.run(10, 11));
    }

    private static DimensionChecker twoPairs() {
        return Drawings.loaded(12, "AB=1[-1,+1];CD=1[-1,+1]");
    }

    private static void gapNotConnected(Check check) {
        DimensionChecker x = twoPairs();
        notConnected(check, (a, b) -> x.gap(a, b, 0), x);
        notConnected(check, (a, b) -> x.gap(a, b, 1), x);
        notConnected(check, (a, b) -> x.gap(a, b, 2), x);
    }

    // ---- promise 19

    private static void spread(Sentences s) {
        s.section("Promise 19");
        s.test("Returns the spread of the gap between two faces.", GapSentences::spreads);
        s.explains("Returns the spread.");
        s.test("if a face does not exist", GapSentences::spreadOfNoFace);
        s.test("if the faces are not connected", GapSentences::spreadNotConnected);
    }

    private static void spreads(Check check) {
        DimensionChecker x = Drawings.loaded(4, "AB=1[-1,+2];CB=1[-4,+0];AC=1[-9,+9]");
        check.due("forward", 5, () -> x.spread(0, 2));
        check.due("backward", 5, () -> x.spread(2, 0));
        check.due("one dimension", 3, () -> x.spread(1, 0));
        check.due("a face alone", 0, () -> x.spread(3, 3));
        x.setDeviations(0, 7, 7);
        check.due("a width of 0", 0, () -> x.spread(0, 1));
        check.due("a width of 0 in it", 4, () -> x.spread(0, 2));
    }

    private static void spreadOfNoFace(Check check) {
        DimensionChecker x = Drawings.path(12, 5, 0, 1);
        check.facesRefused("12 faces", x, 12, (a, b) -> x.spread(a, b));
        DimensionChecker y = Drawings.loaded(2, "AB=1");
        check.facesRefused("2 faces", y, 2, (a, b) -> y.spread(a, b));
    }

    private static void spreadNotConnected(Check check) {
        DimensionChecker x = twoPairs();
        notConnected(check, (a, b) -> x.spread(a, b), x);
    }

    // ---- promise 20

    private static void contributor(Sentences s) {
        s.section("Promise 20");
        s.explains("Finds the dimension that contributes most to the uncertainty of a gap.");
        s.test("the dimension of the chain with the greatest width", GapSentences::greatestWidth);
        s.test("the lowest number of several", GapSentences::lowestOfSeveral);
        s.test("NONE if the chain is empty", GapSentences::noneOfEmpty);
        s.test("if a face does not exist", GapSentences::contributorOfNoFace);
        s.test("if the faces are not connected", GapSentences::contributorNotConnected);
    }

    private static void greatestWidth(Check check) {
        for (int d = 0; d < 11; d++) {
            int widest = d;
            DimensionChecker x = Drawings.path(12, 5, -998, 999);
            x.setDeviations(d, -999, 999);
            check.due("of 11", widest, () -> x.contributor(0, 11));
            check.due("of 11, backward", widest, () -> x.contributor(11, 0));
        }
        DimensionChecker y = Drawings.loaded(3, "AB=1[-1,+1];BC=1[-2,+2];AC=1[-9,+9]");
        check.due("not a doubled one", 1, () -> y.contributor(0, 2));
        check.due("of the chain alone", 0, () -> y.contributor(0, 1));
    }

    private static void lowestOfSeveral(Check check) {
        DimensionChecker x = Drawings.loaded(4, "CB=1[-2,+2];AB=1[-1,+3];CD=1[+1,+5]");
        check.due("from A to D", 0, () -> x.contributor(0, 3));
        check.due("from D to A", 0, () -> x.contributor(3, 0));
        check.due("from D to B", 0, () -> x.contributor(3, 1));
        x.setDeviations(0, 0, 3);
        check.due("the other two", 1, () -> x.contributor(0, 3));
        check.due("the other two, backward", 1, () -> x.contributor(3, 0));
        DimensionChecker zero = Drawings.path(12, 5, 1, 1);
        check.due("all of width 0", 3, () -> zero.contributor(11, 3));
    }

    private static void noneOfEmpty(Check check) {
        DimensionChecker x = Drawings.loaded(3, "AB=1[-2,+2]");
        for (int face = 0; face < 3; face++) {
            int same = face;
            check.due("of face " + face, DimensionChecker.NONE, () -> x.contributor(same, same));
        }
    }

    private static void contributorOfNoFace(Check check) {
        DimensionChecker x = Drawings.path(12, 5, 0, 1);
        check.facesRefused("12 faces", x, 12, (a, b) -> x.contributor(a, b));
        DimensionChecker y = Drawings.loaded(2, "AB=1");
        check.facesRefused("2 faces", y, 2, (a, b) -> y.contributor(a, b));
    }

    private static void contributorNotConnected(Check check) {
        DimensionChecker x = twoPairs();
        notConnected(check, (a, b) -> x.contributor(a, b), x);
    }

    // ---- promise 21

    private static void part(Sentences s) {
        s.section("Promise 21");
        s.explains("Returns the share of a dimension in the uncertainty of a gap.");
        s.test("the width of the dimension, as a double, divided by the sum of the widths",
                GapSentences::shares);
        s.test("if it belongs to the chain", GapSentences::shareOfOthers);
        s.test("and the sum is not 0; otherwise 0.0", GapSentences::sumOfZero);
        s.test("if a face or the dimension does not exist", GapSentences::shareOfNone);
        s.test("if the faces are not connected", GapSentences::shareNotConnected);
    }

    private static void shares(Check check) {
        DimensionChecker x = widths(1, 2, 0);
        check.due("a third", 1.0 / 3, () -> x.part(0, 3, 0));
        check.due("two thirds", 2.0 / 3, () -> x.part(3, 0, 1));
        check.due("nothing", 0.0, () -> x.part(0, 3, 2));
        check.due("all", 1.0, () -> x.part(1, 2, 1));
        DimensionChecker far = Drawings.path(12, 5, -999, 999);
        check.due("of the greatest widths", 1998.0 / (11 * 1998), () -> far.part(0, 11, 10));
        far.setDeviations(0, 0, 1);
        check.due("the least of all", 1.0 / (1 + 10 * 1998), () -> far.part(11, 0, 0));
    }

    private static void shareOfOthers(Check check) {
        DimensionChecker x = Drawings.loaded(4, "AB=1[-1,+0];CB=1[-1,+1];AC=1[-9,+9]");
        check.due("another part of the path", 0.0, () -> x.part(0, 1, 1));
        check.due("a doubled one", 0.0, () -> x.part(0, 2, 2));
        check.due("an empty chain", 0.0, () -> x.part(1, 1, 0));
        check.due("a face alone", 0.0, () -> x.part(3, 3, 0));
    }

    private static void sumOfZero(Check check) {
        DimensionChecker x = widths(0, 0, 1);
        check.due("of the first two", 0.0, () -> x.part(0, 2, 0));
        check.due("of the second", 0.0, () -> x.part(2, 1, 1));
        check.due("of another", 0.0, () -> x.part(0, 2, 2));
        check.due("a sum of 1", 1.0, () -> x.part(0, 3, 2));
    }

    private static void shareOfNone(Check check) {
        DimensionChecker x = Drawings.full();
        check.facesRefused("2 faces", x, 2, (a, b) -> x.part(a, b, 0));
        check.numbersRefused("20 dimensions", x, 20, d -> x.part(0, 1, d));
        check.numbersRefused("20 dimensions, no chain", x, 20, d -> x.part(0, 0, d));
        DimensionChecker y = Drawings.faces(12);
        check.refused("no dimension", INDEX, y, () -> y.part(0, 0, 0));
        check.refused("no dimension, not connected", INDEX, y, () -> y.part(0, 11, 0));
    }

    private static void shareNotConnected(Check check) {
        DimensionChecker x = twoPairs();
        notConnected(check, (a, b) -> x.part(a, b, 0), x);
        notConnected(check, (a, b) -> x.part(a, b, 1), x);
    }
}
