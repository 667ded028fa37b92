/** Promise 27. */
final class DistributeSentences {
    private static final Class<?> ARGUMENT = Check.ARGUMENT;
    private static final Class<?> STATE = Check.STATE;

    private DistributeSentences() {
    }

    static void tell(Sentences s) {
        s.section("Promise 27");
        s.test("Shares a wanted width over the chain between two faces",
                DistributeSentences::overTheChain);
        s.test("in proportion to the present widths", DistributeSentences::inProportion);
        s.explains("Let s be the sum of the present widths.");
        s.test("first gets width * (its present width) / s, rounded down",
                DistributeSentences::roundedDown);
        s.test("then the dimensions, in ascending order of their numbers, get 1 more each",
                DistributeSentences::ascendingOrder);
        s.test("one after the other, until the new widths sum to the wanted width",
                DistributeSentences::untilTheSum);
        s.test("Each dimension whose width changes gets new deviations",
                DistributeSentences::whoseWidthChanges);
        s.test("the new lower deviation is (c - w) / 2, rounded down (toward negative infinity)",
                DistributeSentences::newLower);
        s.test("the new upper deviation is the new lower one plus w",
                DistributeSentences::newUpper);
        s.test("Returns how many dimensions were changed.", DistributeSentences::howMany);
        refusals(s);
    }

    private static void refusals(Sentences s) {
        s.test("if a face does not exist", DistributeSentences::noFace);
        s.test("if width is not 0 to 1998", DistributeSentences::noWidth);
        s.test("if the faces are not connected", DistributeSentences::notConnected);
        s.test("or s is 0", DistributeSentences::sumOfZero);
        s.test("or a new deviation would be out of range", DistributeSentences::lowerOutOfRange);
        s.test("a new deviation would be out of range", DistributeSentences::upperOutOfRange);
    }

    private static void widths(Check check, DimensionChecker x, int... want) {
        for (int i = 0; i < want.length; i++) {
            int d = i;
            check.due("width of " + d, want[d], () -> x.property(d, 4) - x.property(d, 3));
        }
    }

    /** Faces in one row, joined by dimensions with these widths; all lower deviations are 0. */
    private static DimensionChecker row(int... widths) {
        DimensionChecker x = Drawings.faces(widths.length + 1);
        for (int face = 0; face < widths.length; face++) {
            x.addDimension(face, face + 1, 5, 0, widths[face]);
        }
        return x;
    }

    /** Nineteen dimensions join A and B, and the last one joins C to them. */
    private static DimensionChecker lastOfTwenty() {
        DimensionChecker x = Drawings.faces(3);
        for (int d = 0; d < 19; d++) {
            x.addDimension(0, 1, 5, -1, 1);
        }
        x.addDimension(0, 2, 5, -1, 1);
        return x;
    }

    // ---- what it does

    private static void overTheChain(Check check) {
        DimensionChecker x = Drawings.loaded(5, "AB=1[-1,+1];CB=1[-1,+1];CD=1[-1,+1];AC=1[-1,+1]");
        check.due("from A to C", 2, () -> x.distribute(0, 2, 8));
        widths(check, x, 4, 4, 2, 2);
        check.due("from C to A", 2, () -> x.distribute(2, 0, 6));
        widths(check, x, 3, 3, 2, 2);
        check.due("from A to B", 1, () -> x.distribute(0, 1, 9));
        widths(check, x, 9, 3, 2, 2);
        DimensionChecker full = Drawings.fullPath();
        check.due("in a drawing of 20", 11, () -> full.distribute(0, 11, 33));
        widths(check, full, 3, 3, 3, 3, 3, 3, 3, 3, 3, 3, 3, 4, 4, 4, 4, 4, 4, 4, 4, 4);
        DimensionChecker last = lastOfTwenty();
        check.due("the dimension 19", 1, () -> last.distribute(2, 0, 7));
        check.row("the dimension 19", last, 19, 0, 2, 5, -4, 3);
    }

    private static void inProportion(Check check) {
        DimensionChecker x = row(1, 2, 3);
        check.due("twice", 3, () -> x.distribute(0, 3, 12));
        widths(check, x, 2, 4, 6);
        DimensionChecker y = row(0, 5, 0);
        check.due("one has all", 1, () -> y.distribute(0, 3, 9));
        widths(check, y, 0, 9, 0);
        DimensionChecker z = row(600, 30);
        check.due("less", 2, () -> z.distribute(0, 2, 21));
        widths(check, z, 20, 1);
    }

    private static void roundedDown(Check check) {
        DimensionChecker x = row(5, 1, 1);
        // 5 * 6 / 7 is 4, the others get nothing first; the 2 left go to numbers 0 and 1.
        check.due("6 of 7", 1, () -> x.distribute(0, 3, 6));
        widths(check, x, 5, 1, 0);
        DimensionChecker y = row(1, 1, 5);
        // Here number 2 keeps its 4.
        check.due("6 of 7, the great one last", 1, () -> y.distribute(0, 3, 6));
        widths(check, y, 1, 1, 4);
        DimensionChecker z = Drawings.path(3, 5, -999, 999);
        check.due("the greatest product", 2, () -> z.distribute(0, 2, 1998));
        widths(check, z, 999, 999);
    }

    private static void ascendingOrder(Check check) {
        DimensionChecker x = Drawings.loaded(4, "CD=1[+0,+1];BC=1[+0,+1];AB=1[+0,+1]");
        check.due("1 of 3", 2, () -> x.distribute(0, 3, 1));
        widths(check, x, 1, 0, 0);
        DimensionChecker y = Drawings.loaded(4, "CD=1[+0,+1];BC=1[+0,+1];AB=1[+0,+1]");
        check.due("2 of 3", 1, () -> y.distribute(0, 3, 2));
        widths(check, y, 1, 1, 0);
        DimensionChecker z = row(0, 2, 2);
        check.due("a width of 0 gets its 1 too", 3, () -> z.distribute(0, 3, 3));
        widths(check, z, 1, 1, 1);
    }

    private static void untilTheSum(Check check) {
        for (int wanted = 0; wanted <= 11; wanted++) {
            DimensionChecker x = Drawings.path(12, 5, 0, 1);
            int width = wanted;
            check.due("over 11", 11 - width, () -> x.distribute(11, 0, width));
            int[] want = new int[11];
            for (int d = 0; d < wanted; d++) {
                want[d] = 1;
            }
            widths(check, x, want);
        }
        for (int wanted : new int[] {1, 1997, 1998}) {
            DimensionChecker x = row(7, 0, 300, 41, 1, 1, 90, 13, 2, 65, 11);
            x.distribute(0, 11, wanted);
            int sum = 0;
            for (int d = 0; d < 11; d++) {
                sum += x.property(d, 4) - x.property(d, 3);
            }
            check.compare("the sum", wanted, sum);
        }
    }

    private static void whoseWidthChanges(Check check) {
        DimensionChecker x = Drawings.loaded(3, "AB=1[-7,+3];BC=1[+2,+7]");
        check.due("the same sum", 0, () -> x.distribute(0, 2, 15));
        check.row("stays", x, 0, 0, 1, 1, -7, 3);
        check.row("stays", x, 1, 1, 2, 1, 2, 7);
        // 16 * 10 / 15 is 10 and 16 * 5 / 15 is 5; number 0 gets the 1 more.
        check.due("one more", 1, () -> x.distribute(0, 2, 16));
        check.row("changes", x, 0, 0, 1, 1, -8, 3);
        check.row("stays", x, 1, 1, 2, 1, 2, 7);
    }

    /** A dimension of its own with these deviations, which gets the width w. */
    private static void shared(Check check, int lower, int upper, int w, int newLower) {
        DimensionChecker x = Drawings.faces(2);
        x.addDimension(0, 1, 5, lower, upper);
        x.distribute(0, 1, w);
        check.row(lower + " to " + upper + " with " + w, x, 0, 0, 1, 5, newLower, newLower + w);
    }

    private static void newLower(Check check) {
        shared(check, 0, 2, 1, 0);
        shared(check, 0, 2, 3, -1);
        shared(check, 0, 2, 5, -2);
        shared(check, 0, 1, 0, 0);
        shared(check, 0, 1, 2, -1);
        shared(check, -1, 0, 0, -1);
        shared(check, -1, 0, 2, -2);
        shared(check, -3, -1, 3, -4);
        shared(check, -3, -1, 1, -3);
        shared(check, 3, 5, 1, 3);
        shared(check, 3, 5, 3, 2);
        shared(check, -999, -998, 0, -999);
        shared(check, 998, 999, 0, 998);
    }

    private static void newUpper(Check check) {
        DimensionChecker x = Drawings.loaded(2, "AB=5[-1,+1]");
        check.due("the greatest width", 1, () -> x.distribute(0, 1, 1998));
        check.row("both ends", x, 0, 0, 1, 5, -999, 999);
        check.due("one less", 1, () -> x.distribute(0, 1, 1997));
        check.row("one end", x, 0, 0, 1, 5, -999, 998);
        check.due("none", 1, () -> x.distribute(0, 1, 0));
        check.row("the middle", x, 0, 0, 1, 5, -1, -1);
    }

    private static void howMany(Check check) {
        DimensionChecker x = Drawings.path(12, 5, 0, 2);
        check.due("none", 0, () -> x.distribute(0, 11, 22));
        check.due("one", 1, () -> x.distribute(0, 11, 23));
        check.due("all", 11, () -> x.distribute(0, 11, 500));
        check.due("to none", 11, () -> x.distribute(0, 11, 0));
        check.due("two of 20", 2, () -> lastOfTwenty().distribute(1, 2, 40));
    }

    // ---- what it refuses

    private static void noFace(Check check) {
        DimensionChecker x = Drawings.path(12, 5, 0, 1);
        check.facesRefused("12 faces", x, 12, (a, b) -> x.distribute(a, b, 3));
        DimensionChecker y = Drawings.loaded(2, "AB=1[-1,+1]");
        check.facesRefused("2 faces", y, 2, (a, b) -> y.distribute(a, b, 3));
    }

    private static void noWidth(Check check) {
        DimensionChecker x = Drawings.loaded(2, "AB=1[-1,+1]");
        for (int width : new int[] {-1, 1999, Integer.MIN_VALUE, Integer.MAX_VALUE}) {
            check.refused("width " + width, ARGUMENT, x, () -> x.distribute(0, 1, width));
        }
        check.due("width 1998", 1, () -> x.distribute(0, 1, 1998));
        check.due("width 0", 1, () -> x.distribute(0, 1, 0));
    }

    private static void notConnected(Check check) {
        DimensionChecker x = Drawings.loaded(12, "AB=1[-1,+1];CD=1[-1,+1]");
        check.refused("two parts", STATE, x, () -> x.distribute(0, 2, 4));
        check.refused("two parts, backward", STATE, x, () -> x.distribute(3, 1, 4));
        check.refused("a face alone", STATE, x, () -> x.distribute(0, 11, 4));
        check.refused("two alone", STATE, x, () -> x.distribute(10, 11, 0));
    }

    private static void sumOfZero(Check check) {
        DimensionChecker x = row(0, 0, 1);
        check.refused("one width", STATE, x, () -> x.distribute(0, 1, 5));
        check.refused("two widths", STATE, x, () -> x.distribute(2, 0, 5));
        check.refused("nothing to share", STATE, x, () -> x.distribute(0, 2, 0));
        check.refused("an empty chain", STATE, x, () -> x.distribute(3, 3, 5));
        check.refused("an empty chain, nothing", STATE, x, () -> x.distribute(3, 3, 0));
        check.due("a sum of 1", 1, () -> x.distribute(0, 3, 5));
        widths(check, x, 0, 0, 5);
    }

    private static void lowerOutOfRange(Check check) {
        DimensionChecker x = Drawings.loaded(2, "AB=1[-2,+0]");
        check.refused("-1000 and 998", STATE, x, () -> x.distribute(0, 1, 1998));
        check.refused("-1000 and 997", STATE, x, () -> x.distribute(0, 1, 1997));
        check.due("-999 and 997", 1, () -> x.distribute(0, 1, 1996));
        check.row("at the end", x, 0, 0, 1, 1, -999, 997);
        DimensionChecker y = Drawings.loaded(3, "AB=1[-1,+1];BC=1[-999,-997]");
        check.refused("the second of two", STATE, y, () -> y.distribute(0, 2, 8));
        check.refused("the second of two by 1", STATE, y, () -> y.distribute(0, 2, 6));
        check.due("the second stays", 1, () -> y.distribute(0, 2, 5));
    }

    private static void upperOutOfRange(Check check) {
        DimensionChecker x = Drawings.loaded(2, "AB=1[+0,+2]");
        check.refused("-998 and 1000", STATE, x, () -> x.distribute(0, 1, 1998));
        check.due("-998 and 999", 1, () -> x.distribute(0, 1, 1997));
        check.row("at the end", x, 0, 0, 1, 1, -998, 999);
        DimensionChecker y = Drawings.loaded(3, "AB=1[+997,+999];BC=1[-1,+1]");
        check.refused("the first of two", STATE, y, () -> y.distribute(0, 2, 8));
        DimensionChecker z = Drawings.loaded(3, "AB=1[-1,+1];BC=1[+997,+999]");
        check.refused("the second of two", STATE, z, () -> z.distribute(2, 0, 8));
        DimensionChecker last = lastOfTwenty();
        last.setDeviations(19, 997, 999);
        check.refused("the last of 20", STATE, last, () -> last.distribute(1, 2, 8));
        check.due("the second stays", 1, () -> z.distribute(0, 2, 5));
    }
}
