/** Promise 26. */
final class TransferSentences {
    private static final Class<?> INDEX = Check.INDEX;
    private static final Class<?> ARGUMENT = Check.ARGUMENT;
    private static final Class<?> STATE = Check.STATE;

    private TransferSentences() {
    }

    static void tell(Sentences s) {
        s.section("Promise 26");
        s.test("so that it leads from the datum to the same face as before",
                TransferSentences::leadsFromDatum);
        s.test("what it said stays true whenever all dimensions are true",
                TransferSentences::staysTrue);
        s.explains("Let n, l and u be its nominal value and its limits");
        s.test("along the chain", TransferSentences::alongTheChain);
        s.test("The new nominal value is m + n", TransferSentences::newNominal);
        s.test("the new lower limit is l + q, and the new upper limit is u + p",
                TransferSentences::newLimits);
        s.test("Its number stays.", TransferSentences::numberStays);
        s.test("Returns the new width.", TransferSentences::newWidth);
        s.test("if the dimension or the face does not exist", TransferSentences::noneThere);
        s.test("if the datum is a face that the dimension joins", TransferSentences::joined);
        refusedByState(s);
    }

    private static void refusedByState(Sentences s) {
        s.test("if the dimension is doubled", TransferSentences::doubled);
        s.test("there is no chain from the datum to the face from which it leads",
                TransferSentences::noChain);
        s.test("this chain contains the dimension", TransferSentences::containsIt);
        s.test("the new lower limit would be greater than the new upper limit",
                TransferSentences::crossed);
        s.test("or the new nominal value", TransferSentences::nominalOutOfRange);
        s.test("or a new deviation would be out of range", TransferSentences::lowerOutOfRange);
        s.test("a new deviation would be out of range", TransferSentences::upperOutOfRange);
    }

    // ---- what it does

    private static void leadsFromDatum(Check check) {
        DimensionChecker x = Drawings.loaded(4, "AB=10;BC=20;CD=5");
        x.transfer(1, 0);
        check.row("the dimension", x, 1, 0, 2, 30, 0, 0);
        check.row("the one before", x, 0, 0, 1, 10, 0, 0);
        check.row("the one behind", x, 2, 2, 3, 5, 0, 0);
        check.due("the chain leads over the datum", 2, () -> x.chainLength(1, 2));
        check.due("all are connected", 0, () -> x.missing());
        DimensionChecker full = Drawings.fullPath();
        full.setDeviations(10, -999, 999);
        check.due("in a drawing of 20", 1978, () -> full.transfer(10, 0));
        check.row("in a drawing of 20", full, 10, 0, 11, 55, -989, 989);
    }

    private static void staysTrue(Check check) {
        DimensionChecker x = Drawings.loaded(4, "BC=20[-4,+5];BA=-10[-1,+2];CD=7[-9,+9]");
        int low = x.tight(1, 2, false);
        int high = x.tight(1, 2, true);
        x.transfer(0, 0);
        check.due("least gap", low, () -> x.tight(1, 2, false));
        check.due("greatest gap", high, () -> x.tight(1, 2, true));
        DimensionChecker y = Drawings.path(12, 5, -1, 1);
        y.setDeviations(10, -400, 300);
        y.transfer(10, 0);
        check.due("least gap behind ten", -395, () -> y.tight(10, 11, false));
        check.due("greatest gap behind ten", 305, () -> y.tight(10, 11, true));
    }

    private static void alongTheChain(Check check) {
        // The doubled dimension from A to B is narrower, but it is not of the chain.
        DimensionChecker x = Drawings.loaded(3, "AB=10[-2,+3];BC=20[-9,+9];AB=11[-1,+1]");
        check.due("transfer", 13, () -> x.transfer(1, 0));
        check.row("by the chain", x, 1, 0, 2, 30, -6, 7);
    }

    private static void newNominal(Check check) {
        int[][] nominals = {{0, 0}, {10, -30}, {-10, 30}, {50000, 49999}, {-50000, -49999},
            {99999, 0}, {-99999, 99999}, {99999, -99999}};
        for (int[] pair : nominals) {
            DimensionChecker x = Drawings.faces(3);
            x.addDimension(0, 1, pair[0], 0, 0);
            x.addDimension(1, 2, pair[1], 0, 0);
            x.transfer(1, 0);
            check.row("sum of two", x, 1, 0, 2, pair[0] + pair[1], 0, 0);
            DimensionChecker back = Drawings.faces(3);
            back.addDimension(1, 0, pair[0], 0, 0);
            back.addDimension(1, 2, -pair[1], 0, 0);
            back.transfer(1, 0);
            check.row("sum of two, backward", back, 1, 0, 2, -pair[0] - pair[1], 0, 0);
        }
    }

    private static void newLimits(Check check) {
        DimensionChecker x = Drawings.loaded(3, "AB=10[-1,+2];BC=20[-4,+5]");
        // m, p, q are 10, 9, 12, and n, l, u are 20, 16, 25: the limits become 28 and 34.
        check.due("transfer", 6, () -> x.transfer(1, 0));
        check.row("forward", x, 1, 0, 2, 30, -2, 4);
        DimensionChecker y = Drawings.loaded(3, "BA=-10[-1,+2];BC=20[-4,+5]");
        // m, p, q are 10, 8, 11 here: the limits become 27 and 33.
        check.due("transfer", 6, () -> y.transfer(1, 0));
        check.row("backward", y, 1, 0, 2, 30, -3, 3);
    }

    private static void numberStays(Check check) {
        DimensionChecker x = Drawings.loaded(4, "BC=20;CD=3;AB=10;CD=4");
        x.transfer(0, 0);
        check.row("the first", x, 0, 0, 2, 30, 0, 0);
        check.row("the second", x, 1, 2, 3, 3, 0, 0);
        check.row("the third", x, 2, 0, 1, 10, 0, 0);
        check.row("the last", x, 3, 2, 3, 4, 0, 0);
        check.due("how many", 4, () -> x.dimensionCount());
        DimensionChecker y = Drawings.loaded(3, "BC=20[-4,+4];BC=21[-1,+1];AB=10[-1,+1]");
        y.transfer(0, 0);
        check.due("the lowest number still", false, () -> y.isDoubled(0));
        check.due("what joined the same faces", false, () -> y.isDoubled(1));
        check.due("the highest is doubled now", true, () -> y.isDoubled(2));
    }

    private static void newWidth(Check check) {
        int[] chainWidths = {0, 1, 8, 9};
        for (int width : chainWidths) {
            DimensionChecker x = Drawings.faces(3);
            x.addDimension(0, 1, 10, 0, width);
            x.addDimension(1, 2, 20, 0, 9);
            check.due("9 less " + width, 9 - width, () -> x.transfer(1, 0));
        }
        DimensionChecker y = Drawings.faces(3);
        y.addDimension(0, 1, 10, 0, 0);
        y.addDimension(1, 2, 20, -999, 999);
        check.due("the greatest", 1998, () -> y.transfer(1, 0));
    }

    // ---- what it refuses

    private static void noneThere(Check check) {
        DimensionChecker x = Drawings.loaded(3, "AB=10;BC=20");
        check.numbersRefused("of 2", x, 2, d -> x.transfer(d, 0));
        for (int datum : new int[] {-1, 3, 12, Integer.MIN_VALUE, Integer.MAX_VALUE}) {
            check.refused("datum " + datum, INDEX, x, () -> x.transfer(1, datum));
        }
        DimensionChecker y = Drawings.full();
        check.numbersRefused("of 20", y, 20, d -> y.transfer(d, 0));
        DimensionChecker z = Drawings.path(12, 5, 0, 0);
        check.refused("datum 12 of 12", INDEX, z, () -> z.transfer(0, 12));
        check.refused("dimension 11 of 11", INDEX, z, () -> z.transfer(11, 0));
        check.due("the last of 11", 0, () -> z.transfer(10, 0));
    }

    private static void joined(Check check) {
        DimensionChecker x = Drawings.loaded(3, "AB=10;BC=20");
        check.refused("the face from which it leads", ARGUMENT, x, () -> x.transfer(1, 1));
        check.refused("the face to which it leads", ARGUMENT, x, () -> x.transfer(1, 2));
        check.refused("of the first", ARGUMENT, x, () -> x.transfer(0, 0));
        check.refused("of the first, to", ARGUMENT, x, () -> x.transfer(0, 1));
        DimensionChecker y = Drawings.full();
        for (int d = 0; d < 20; d++) {
            int dimension = d;
            check.refused("A of " + d, ARGUMENT, y, () -> y.transfer(dimension, 0));
            check.refused("B of " + d, ARGUMENT, y, () -> y.transfer(dimension, 1));
        }
    }

    private static void doubled(Check check) {
        DimensionChecker x = Drawings.loaded(3, "AB=10;BC=20;BC=20");
        check.refused("the second of two", STATE, x, () -> x.transfer(2, 0));
        check.due("the first of two", 0, () -> x.transfer(1, 0));
        check.due("the second is doubled still", true, () -> x.isDoubled(2));
    }

    private static void noChain(Check check) {
        DimensionChecker x = Drawings.loaded(4, "AB=10;CD=20");
        check.refused("another part", STATE, x, () -> x.transfer(1, 0));
        DimensionChecker y = Drawings.loaded(12, "AB=10");
        check.refused("a face alone", STATE, y, () -> y.transfer(0, 11));
    }

    private static void containsIt(Check check) {
        DimensionChecker x = Drawings.loaded(4, "AB=10;BC=20;CD=30");
        check.refused("behind its second face", STATE, x, () -> x.transfer(0, 2));
        check.refused("far behind it", STATE, x, () -> x.transfer(0, 3));
        check.refused("behind the middle one", STATE, x, () -> x.transfer(1, 3));
        check.due("before the middle one", 0, () -> x.transfer(1, 0));
    }

    private static void crossed(Check check) {
        DimensionChecker x = Drawings.loaded(3, "AB=10[-2,+2];BC=20[-1,+2]");
        check.refused("by 1", STATE, x, () -> x.transfer(1, 0));
        x.setDeviations(1, -2, 2);
        check.due("by 0", 0, () -> x.transfer(1, 0));
        check.row("a width of 0", x, 1, 0, 2, 30, 0, 0);
        DimensionChecker y = Drawings.loaded(3, "AB=10[-999,+999];BC=20");
        check.refused("by far", STATE, y, () -> y.transfer(1, 0));
    }

    /** From A to B and on to C; the second dimension is to lead from A. */
    private static DimensionChecker three(int first, int second, int shift, int low, int high) {
        DimensionChecker x = Drawings.faces(3);
        x.addDimension(0, 1, first, shift, shift);
        x.addDimension(1, 2, second, low, high);
        return x;
    }

    private static void nominalOutOfRange(Check check) {
        DimensionChecker x = three(50000, 50000, 0, 0, 0);
        check.refused("100000", STATE, x, () -> x.transfer(1, 0));
        check.due("99999", 0, () -> three(50000, 49999, 0, 0, 0).transfer(1, 0));
        DimensionChecker y = three(-50000, -50000, 0, 0, 0);
        check.refused("-100000", STATE, y, () -> y.transfer(1, 0));
        check.due("-99999", 0, () -> three(-50000, -49999, 0, 0, 0).transfer(1, 0));
        DimensionChecker far = Drawings.path(12, 99999, 0, 0);
        check.refused("the greatest of all", STATE, far, () -> far.transfer(10, 0));
        // A limit beyond the range of nominal values is none of its own.
        check.due("a limit of 100998", 0, () -> three(50000, 49999, 0, 999, 999).transfer(1, 0));
    }

    private static void lowerOutOfRange(Check check) {
        DimensionChecker x = three(5, 5, -2, -998, -900);
        check.refused("-1000", STATE, x, () -> x.transfer(1, 0));
        check.due("-999", 97, () -> three(5, 5, -2, -997, -900).transfer(1, 0));
        DimensionChecker y = three(5, 5, -999, -999, -999);
        check.refused("both far below", STATE, y, () -> y.transfer(1, 0));
    }

    private static void upperOutOfRange(Check check) {
        DimensionChecker x = three(5, 5, 2, 900, 998);
        check.refused("1000", STATE, x, () -> x.transfer(1, 0));
        check.due("999", 97, () -> three(5, 5, 2, 900, 997).transfer(1, 0));
        DimensionChecker y = three(5, 5, 999, 999, 999);
        check.refused("both far above", STATE, y, () -> y.transfer(1, 0));
    }
}
