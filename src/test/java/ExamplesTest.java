/** The four examples of the document, each on a new object. */
public final class ExamplesTest {
    private static final Check CHECK = new Check("examples");

    public static void main(String[] args) {
        tooManyDimensions();
        generalTolerances();
        bracketThatCannotBeClosed();
        transferAndShare();
        CHECK.end();
    }

    private static void appendAll(DimensionChecker x, int... codes) {
        for (int i = 0; i < codes.length; i++) {
            int code = codes[i];
            CHECK.due("append(" + code + ")", i + 1, () -> x.append(code));
        }
    }

    private static void tooManyDimensions() {
        DimensionChecker x = new DimensionChecker();
        CHECK.due("1: setFaces(3)", 0, () -> x.setFaces(3));
        CHECK.due("1: addDimension(0, 1, 100, -5, 5)", 0, () -> x.addDimension(0, 1, 100, -5, 5));
        CHECK.due("1: addDimension(1, 2, 50, 0, 3)", 1, () -> x.addDimension(1, 2, 50, 0, 3));
        CHECK.due("1: addDimension(0, 2, 160, -1, 1)", 2, () -> x.addDimension(0, 2, 160, -1, 1));
        CHECK.due("1: isDoubled(2)", true, () -> x.isDoubled(2));
        CHECK.due("1: misfit(2)", 10, () -> x.misfit(2));
        CHECK.due("1: gap(0, 2, 2)", 158, () -> x.gap(0, 2, 2));
        CHECK.due("1: contradictions()", 1, () -> x.contradictions());
        CHECK.due("1: isConsistent()", false, () -> x.isConsistent());
        CHECK.due("1: spread(0, 2)", 10, () -> x.spread(0, 2));
    }

    private static void generalTolerances() {
        DimensionChecker x = new DimensionChecker();
        appendAll(x, 65, 66, 61, 52, 48);
        CHECK.due("2: load()", 1, () -> x.load());
        CHECK.due("2: general('m')", 1, () -> x.general('m'));
        CHECK.due("2: gap(0, 1, 1)", 30, () -> x.gap(0, 1, 1));
        CHECK.due("2: tight(1, 0, true)", -30, () -> x.tight(1, 0, true));
    }

    private static void bracketThatCannotBeClosed() {
        DimensionChecker x = new DimensionChecker();
        appendAll(x, 65, 66, 61, 53, 91, 43, 50, 44, 43, 49, 93);
        CHECK.due("3: firstError()", 10, () -> x.firstError());
        CHECK.refused("3: load()", IllegalStateException.class, x, () -> x.load());
    }

    private static void transferAndShare() {
        DimensionChecker x = new DimensionChecker();
        CHECK.due("4: setFaces(3)", 0, () -> x.setFaces(3));
        CHECK.due("4: addDimension(0, 1, 10, -1, 1)", 0, () -> x.addDimension(0, 1, 10, -1, 1));
        CHECK.due("4: addDimension(1, 2, 20, -4, 4)", 1, () -> x.addDimension(1, 2, 20, -4, 4));
        CHECK.due("4: transfer(1, 0)", 6, () -> x.transfer(1, 0));
        CHECK.due("4: property(1, 2)", 30, () -> x.property(1, 2));
        CHECK.due("4: gap(1, 2, 2)", 24, () -> x.gap(1, 2, 2));
        CHECK.due("4: distribute(0, 1, 5)", 1, () -> x.distribute(0, 1, 5));
        CHECK.due("4: property(0, 3)", -3, () -> x.property(0, 3));
        CHECK.due("4: missing()", 0, () -> x.missing());
    }
}
