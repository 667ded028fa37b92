/** Chains and parts, and promises 13 to 17. */
final class ChainSentences {
    private static final Class<?> INDEX = Check.INDEX;
    private static final int NONE = -1;

    private ChainSentences() {
    }

    static void tell(Sentences s) {
        chains(s);
        isDoubled(s);
        missing(s);
        partOf(s);
        chainLength(s);
        chainDimension(s);
    }

    private static void doubled(Check check, DimensionChecker x, boolean... want) {
        for (int d = 0; d < want.length; d++) {
            int asked = d;
            check.due("isDoubled(" + d + ")", want[d], () -> x.isDoubled(asked));
        }
    }

    private static void chain(Check check, DimensionChecker x, int from, int to, int... want) {
        String about = "from " + from + " to " + to;
        check.due("chainLength " + about, want.length, () -> x.chainLength(from, to));
        for (int i = 0; i < want.length; i++) {
            int index = i;
            check.due("dimension " + i + " " + about, want[i],
                    () -> x.chainDimension(from, to, index));
        }
        check.refused("behind the chain " + about, INDEX, x,
                () -> x.chainDimension(from, to, want.length));
    }

    private static void parts(Check check, DimensionChecker x, int... want) {
        for (int face = 0; face < want.length; face++) {
            int asked = face;
            check.due("partOf(" + face + ")", want[face], () -> x.partOf(asked));
        }
    }

    /** Twelve faces in one row, joined from the last to the first. */
    private static DimensionChecker descending() {
        DimensionChecker x = Drawings.faces(12);
        for (int face = 10; face >= 0; face--) {
            x.addDimension(face, face + 1, 5, 0, 1);
        }
        return x;
    }

    // ---- chains and parts

    private static void chains(Sentences s) {
        s.section("Description");
        s.explains("Chains.");
        s.test("already joined by dimensions with lower numbers", ChainSentences::lowerNumbers);
        s.test("directly or", ChainSentences::directly);
        s.test("through other faces", ChainSentences::throughOthers);
        s.test("(directions do not matter)", ChainSentences::directions);
        s.test("The dimensions that are not doubled form no ring.", ChainSentences::noRing);
        s.test("a sequence of dimensions that are not doubled", ChainSentences::notByDoubled);
        s.test("without coming to a face twice", ChainSentences::noFaceTwice);
        s.test("there is none if the faces are not connected", ChainSentences::noChain);
        s.test("The chain from a face to itself is empty.", ChainSentences::emptyChain);
        s.test("A part is a greatest set of faces that are connected.",
                ChainSentences::greatestSets);
    }

    private static void lowerNumbers(Check check) {
        doubled(check, Drawings.loaded(3, "AB=1;BC=1;AC=1"), false, false, true);
        doubled(check, Drawings.loaded(3, "AC=1;AB=1;BC=1"), false, false, true);
        doubled(check, Drawings.loaded(3, "AB=1;AB=1;BC=1"), false, true, false);
        // A higher number joins A and C, which makes the lower one no double.
        doubled(check, Drawings.loaded(4, "AC=1;AD=1;DC=1"), false, false, true);
        DimensionChecker x = Drawings.loaded(3, "AB=1;BC=1;AC=1");
        x.removeDimension(0);
        doubled(check, x, false, false);
    }

    private static void directly(Check check) {
        DimensionChecker x = Drawings.full();
        boolean[] want = new boolean[20];
        for (int d = 1; d < 20; d++) {
            want[d] = true;
        }
        doubled(check, x, want);
    }

    private static void throughOthers(Check check) {
        for (int n = 3; n <= 12; n++) {
            DimensionChecker x = Drawings.path(n, 5, 0, 0);
            x.addDimension(0, n - 1, 5, 0, 0);
            boolean[] want = new boolean[n];
            want[n - 1] = true;
            doubled(check, x, want);
        }
    }

    private static void directions(Check check) {
        for (String list : new String[] {"AB=1;BC=1;AC=1", "BA=1;BC=1;AC=1", "AB=1;CB=1;AC=1",
            "BA=1;CB=1;AC=1", "AB=1;BC=1;CA=1", "BA=1;CB=1;CA=1"}) {
            doubled(check, Drawings.loaded(3, list), false, false, true);
        }
        doubled(check, Drawings.loaded(2, "AB=1;BA=1"), false, true);
        doubled(check, Drawings.loaded(2, "BA=1;AB=1"), false, true);
    }

    private static void noRing(Check check) {
        DimensionChecker x = Drawings.faces(7);
        int added = 0;
        for (int a = 0; a < 7; a++) {
            for (int b = a + 1; b < 7 && added < 20; b++) {
                x.addDimension(b, a, 5, 0, 0);
                added++;
            }
        }
        int kept = 0;
        for (int d = 0; d < 20; d++) {
            kept += x.isDoubled(d) ? 0 : 1;
        }
        check.compare("as many as faces but one", 6, kept);
        check.due("one part", 0, () -> x.missing());
    }

    private static void notByDoubled(Check check) {
        DimensionChecker x = Drawings.loaded(3, "AB=1;BC=1;AC=1;CB=1");
        chain(check, x, 0, 2, 0, 1);
        chain(check, x, 1, 2, 1);
        DimensionChecker longest = Drawings.path(12, 5, 0, 0);
        longest.addDimension(0, 11, 5, 0, 0);
        chain(check, longest, 0, 11, 0, 1, 2, 3, 4, 5, 6, 7, 8, 9, 10);
    }

    private static void noFaceTwice(Check check) {
        // A star with F in its middle, and a tail behind E.
        DimensionChecker x = Drawings.loaded(7, "FA=1;BF=1;FC=1;DF=1;FE=1;EG=1");
        chain(check, x, 0, 1, 0, 1);
        chain(check, x, 3, 2, 3, 2);
        chain(check, x, 6, 0, 5, 4, 0);
        chain(check, x, 5, 3, 3);
    }

    private static void noChain(Check check) {
        DimensionChecker x = Drawings.loaded(5, "AB=1;DC=1");
        check.due("between two parts", NONE, () -> x.chainLength(1, 2));
        check.due("to a face alone", NONE, () -> x.chainLength(3, 4));
        check.due("from a face alone", NONE, () -> x.chainLength(4, 0));
        check.refused("its dimension 0", INDEX, x, () -> x.chainDimension(0, 3, 0));
        check.refused("its gap", Check.STATE, x, () -> x.gap(0, 3, 0));
    }

    private static void emptyChain(Check check) {
        DimensionChecker x = Drawings.path(12, 5, 0, 1);
        x.removeDimension(10);
        for (int face = 0; face < 12; face++) {
            int same = face;
            chain(check, x, same, same);
            check.due("its gap", 0, () -> x.gap(same, same, 2));
            check.due("its spread", 0, () -> x.spread(same, same));
        }
    }

    private static void greatestSets(Check check) {
        DimensionChecker x = Drawings.faces(12);
        parts(check, x, 0, 1, 2, 3, 4, 5, 6, 7, 8, 9, 10, 11);
        x.addDimension(11, 10, 5, 0, 0);
        x.addDimension(1, 3, 5, 0, 0);
        parts(check, x, 0, 1, 2, 1, 4, 5, 6, 7, 8, 9, 10, 10);
        x.addDimension(10, 3, 5, 0, 0);
        parts(check, x, 0, 1, 2, 1, 4, 5, 6, 7, 8, 9, 1, 1);
        parts(check, descending(), 0, 0, 0, 0, 0, 0, 0, 0, 0, 0, 0, 0);
    }

    // ---- promise 13

    private static void isDoubled(Sentences s) {
        s.section("Promise 13");
        s.explains("Tells whether a dimension is doubled.");
        s.test("Returns true if it is doubled.", ChainSentences::tellsDoubled);
        s.test("if the dimension does not exist", ChainSentences::doubledNone);
    }

    private static void tellsDoubled(Check check) {
        DimensionChecker x = Drawings.loaded(5, "AB=1;CD=1;BA=1;DB=1;AC=1;CA=1;AE=1");
        doubled(check, x, false, false, true, false, true, true, false);
        x.removeDimension(0);
        doubled(check, x, false, false, false, true, true, false);
        x.addDimension(4, 3, 5, 0, 0);
        doubled(check, x, false, false, false, true, true, false, true);
    }

    private static void doubledNone(Check check) {
        DimensionChecker x = Drawings.full();
        check.numbersRefused("of 20", x, 20, d -> x.isDoubled(d));
        DimensionChecker y = Drawings.faces(2);
        check.numbersRefused("of none", y, 0, d -> y.isDoubled(d));
        x.removeDimension(19);
        check.refused("one that was there", INDEX, x, () -> x.isDoubled(19));
    }

    // ---- promise 14

    private static void missing(Sentences s) {
        s.section("Promise 14");
        s.test("the number of parts minus 1", ChainSentences::partsLessOne);
        s.test("Returns the number of missing dimensions.", ChainSentences::givenTheyAreNone);
    }

    private static void partsLessOne(Check check) {
        DimensionChecker x = Drawings.faces(12);
        check.due("12 parts", 11, () -> x.missing());
        for (int face = 10; face >= 0; face--) {
            int left = face;
            x.addDimension(face + 1, face, 5, 0, 0);
            check.due("a dimension more", left, () -> x.missing());
        }
        x.addDimension(0, 11, 5, 0, 0);
        check.due("a doubled one more", 0, () -> x.missing());
        check.due("2 parts", 1, () -> new DimensionChecker().missing());
        check.due("1 part", 0, () -> Drawings.full().missing());
    }

    private static void givenTheyAreNone(Check check) {
        DimensionChecker x = Drawings.loaded(6, "BE=1;EB=1;FC=1");
        check.due("missing", 3, () -> x.missing());
        x.addDimension(0, 1, 5, 0, 0);
        x.addDimension(2, 4, 5, 0, 0);
        x.addDimension(3, 5, 5, 0, 0);
        check.due("three more given", 0, () -> x.missing());
    }

    // ---- promise 15

    private static void partOf(Sentences s) {
        s.section("Promise 15");
        s.explains("Returns the part of a face.");
        s.test("Returns the lowest face of its part.", ChainSentences::lowestFace);
        s.test("if the face does not exist", ChainSentences::partOfNone);
    }

    private static void lowestFace(Check check) {
        parts(check, Drawings.loaded(6, "FE=1;DC=1;EC=1"), 0, 1, 2, 2, 2, 2);
        parts(check, Drawings.loaded(6, "EF=1;CD=1;CE=1;FB=1"), 0, 1, 1, 1, 1, 1);
        parts(check, Drawings.loaded(4, "DA=1;CB=1"), 0, 1, 1, 0);
        parts(check, Drawings.loaded(4, "DA=1;CB=1;BD=1"), 0, 0, 0, 0);
        parts(check, Drawings.loaded(4, "DA=1;CB=1;AC=1"), 0, 0, 0, 0);
    }

    private static void partOfNone(Check check) {
        for (int n : new int[] {2, 11, 12}) {
            DimensionChecker x = Drawings.faces(n);
            for (int face : new int[] {-1, n, 12, Integer.MIN_VALUE, Integer.MAX_VALUE}) {
                check.refused(n + " faces: " + face, INDEX, x, () -> x.partOf(face));
            }
        }
    }

    // ---- promise 16

    private static void chainLength(Sentences s) {
        s.section("Promise 16");
        s.test("Returns the number of dimensions of the chain between two faces.",
                ChainSentences::lengths);
        s.test("NONE if the faces are not connected", ChainSentences::lengthOfNoChain);
        s.test("if a face does not exist", ChainSentences::lengthOfNoFace);
    }

    private static void lengths(Check check) {
        for (DimensionChecker x : new DimensionChecker[] {Drawings.path(12, 5, 0, 0),
            descending()}) {
            for (int a = 0; a < 12; a++) {
                for (int b = 0; b < 12; b++) {
                    int from = a;
                    int to = b;
                    check.due("from " + a + " to " + b, Math.abs(a - b),
                            () -> x.chainLength(from, to));
                }
            }
        }
    }

    private static void lengthOfNoChain(Check check) {
        DimensionChecker x = Drawings.faces(12);
        check.due("no dimension", NONE, () -> x.chainLength(0, 11));
        x.addDimension(0, 5, 5, 0, 0);
        x.addDimension(11, 6, 5, 0, 0);
        check.due("two parts", NONE, () -> x.chainLength(5, 6));
        check.due("two parts, backward", NONE, () -> x.chainLength(11, 0));
        check.due("the constant", DimensionChecker.NONE, () -> x.chainLength(0, 1));
    }

    private static void lengthOfNoFace(Check check) {
        DimensionChecker x = Drawings.path(12, 5, 0, 0);
        check.facesRefused("12 faces", x, 12, (a, b) -> x.chainLength(a, b));
        DimensionChecker y = Drawings.faces(2);
        check.facesRefused("2 faces", y, 2, (a, b) -> y.chainLength(a, b));
        check.refused("from none to itself", INDEX, y, () -> y.chainLength(2, 2));
    }

    // ---- promise 17

    private static void chainDimension(Sentences s) {
        s.section("Promise 17");
        s.explains("Returns a dimension of the chain between two faces.");
        s.test("the index in the chain, from 0", ChainSentences::fromZero);
        s.test("Returns the number of the dimension.", ChainSentences::chainNumbers);
        s.test("if a face does not exist", ChainSentences::dimensionOfNoFace);
        s.test("the faces are not connected", ChainSentences::dimensionOfNoChain);
        s.test("or the chain has no such index", ChainSentences::noSuchIndex);
    }

    private static void fromZero(Check check) {
        DimensionChecker x = Drawings.loaded(4, "CD=1;AB=1;CB=1");
        check.due("the first", 1, () -> x.chainDimension(0, 3, 0));
        check.due("the last", 0, () -> x.chainDimension(0, 3, 2));
        check.due("the first, backward", 0, () -> x.chainDimension(3, 0, 0));
        check.due("the last, backward", 1, () -> x.chainDimension(3, 0, 2));
    }

    private static void chainNumbers(Check check) {
        chain(check, Drawings.path(12, 5, 0, 0), 0, 11, 0, 1, 2, 3, 4, 5, 6, 7, 8, 9, 10);
        chain(check, Drawings.path(12, 5, 0, 0), 11, 0, 10, 9, 8, 7, 6, 5, 4, 3, 2, 1, 0);
        chain(check, descending(), 0, 11, 10, 9, 8, 7, 6, 5, 4, 3, 2, 1, 0);
        DimensionChecker x = Drawings.loaded(3, "AB=1;AB=1;AB=1;CB=1;BA=1");
        chain(check, x, 0, 2, 0, 3);
        x.removeDimension(0);
        chain(check, x, 2, 0, 2, 0);
    }

    private static void dimensionOfNoFace(Check check) {
        DimensionChecker x = Drawings.path(12, 5, 0, 0);
        check.facesRefused("12 faces", x, 12, (a, b) -> x.chainDimension(a, b, 0));
        DimensionChecker y = Drawings.loaded(2, "AB=1");
        check.facesRefused("2 faces", y, 2, (a, b) -> y.chainDimension(a, b, 0));
    }

    private static void dimensionOfNoChain(Check check) {
        DimensionChecker x = Drawings.loaded(4, "AB=1;CD=1");
        check.refused("two parts", INDEX, x, () -> x.chainDimension(0, 2, 0));
        check.refused("two parts, backward", INDEX, x, () -> x.chainDimension(3, 1, 0));
        DimensionChecker y = Drawings.faces(2);
        check.refused("no dimension", INDEX, y, () -> y.chainDimension(0, 1, 0));
    }

    private static void noSuchIndex(Check check) {
        DimensionChecker x = Drawings.path(12, 5, 0, 0);
        for (int index : new int[] {-1, 11, 12, 20, Integer.MIN_VALUE, Integer.MAX_VALUE}) {
            check.refused("index " + index + " of 11", INDEX, x,
                    () -> x.chainDimension(0, 11, index));
        }
        check.refused("index 1 of 1", INDEX, x, () -> x.chainDimension(4, 5, 1));
        check.refused("index 0 of none", INDEX, x, () -> x.chainDimension(4, 4, 0));
        check.refused("index -1 of none", INDEX, x, () -> x.chainDimension(4, 4, -1));
    }
}
