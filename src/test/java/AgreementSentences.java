/** All dimensions together, and promises 22 to 25. */
final class AgreementSentences {
    private static final Class<?> STATE = Check.STATE;

    private AgreementSentences() {
    }

    static void tell(Sentences s) {
        together(s);
        misfit(s);
        contradictions(s);
        isConsistent(s);
        tight(s);
    }

    private static void consistent(Check check, int faces, String list, boolean want) {
        DimensionChecker x = Drawings.loaded(faces, list);
        check.due(list, want, () -> x.isConsistent());
    }

    /** The least and the greatest gap, both ways. */
    private static void tight(Check check, DimensionChecker x, int a, int b, int low, int high) {
        String about = "from " + a + " to " + b;
        check.due("least " + about, low, () -> x.tight(a, b, false));
        check.due("greatest " + about, high, () -> x.tight(a, b, true));
        check.due("least backward " + about, -high, () -> x.tight(b, a, false));
        check.due("greatest backward " + about, -low, () -> x.tight(b, a, true));
    }

    // ---- all dimensions together

    private static void together(Sentences s) {
        s.section("Description");
        s.explains("All dimensions together.");
        s.test("The drawing is consistent if there are integer positions of all faces",
                AgreementSentences::positions);
        s.test("for which all dimensions, also the doubled ones, are true",
                AgreementSentences::alsoDoubled);
        s.test("the tight limits of the gap from a to b are the least and the greatest gap that"
                + " occurs among all such positions", AgreementSentences::leastAndGreatest);
        s.test("(If a and b are not connected, there are none.)", AgreementSentences::noLimits);
    }

    private static void positions(Check check) {
        consistent(check, 3, "AB=10;BC=10;AC=20", true);
        consistent(check, 3, "AB=10;BC=10;AC=21", false);
        consistent(check, 3, "AB=10;BC=10;AC=19", false);
        consistent(check, 3, "AB=10[+0,+1];BC=10;AC=21", true);
        consistent(check, 3, "AB=10[+0,+1];BC=10;AC=22", false);
        consistent(check, 3, "AB=10[-1,+0];CB=-10;CA=-19", true);
        consistent(check, 3, "AB=10[-1,+0];CB=-10;CA=-18", false);
        // The last face, in a part of its own without face 0.
        consistent(check, 12, "AB=1;KL=5;LK=-5", true);
        consistent(check, 12, "AB=1;KL=5;LK=-4", false);
    }

    private static void alsoDoubled(Check check) {
        String list = "AB=10[-5,+5];AB=5[-5,+0];AB=6[-1,+5]";
        consistent(check, 2, list, true);
        consistent(check, 2, list.replace("AB=6[-1", "AB=6[+0"), false);
        // No doubled one contradicts the chain here; they contradict one another.
        DimensionChecker x = Drawings.loaded(2, "AB=10[-5,+5];AB=5;BA=-15");
        check.due("contradictions", 0, () -> x.contradictions());
        check.due("isConsistent", false, () -> x.isConsistent());
    }

    private static void leastAndGreatest(Check check) {
        DimensionChecker x = Drawings.loaded(3, "AB=100[-5,+5];CB=30[-2,+2];AC=70[-1,+12]");
        tight(check, x, 0, 2, 69, 77);
        tight(check, x, 0, 1, 97, 105);
        tight(check, x, 1, 2, -32, -28);
        DimensionChecker one = Drawings.loaded(2, "AB=10[-5,+5];AB=5[-5,+0]");
        tight(check, one, 0, 1, 5, 5);
        DimensionChecker far = Drawings.path(12, 99999, -999, 999);
        tight(check, far, 0, 11, 11 * 99000, 11 * 100998);
        far.addDimension(11, 0, -99999, 0, 0);
        check.refused("too far", STATE, far, () -> far.tight(0, 11, true));
    }

    private static void noLimits(Check check) {
        DimensionChecker x = Drawings.loaded(4, "AB=1;CD=1");
        check.refused("least", STATE, x, () -> x.tight(0, 2, false));
        check.refused("greatest", STATE, x, () -> x.tight(0, 2, true));
        check.refused("backward", STATE, x, () -> x.tight(3, 1, true));
    }

    // ---- promise 22

    private static void misfit(Sentences s) {
        s.section("Promise 22");
        s.explains("Returns the misfit of a doubled dimension.");
        s.test("its nominal value minus the nominal gap between the faces",
                AgreementSentences::misfits);
        s.test("if the dimension does not exist", AgreementSentences::misfitOfNone);
        s.test("if it is not doubled", AgreementSentences::misfitOfNotDoubled);
    }

    private static void misfits(Check check) {
        DimensionChecker x = Drawings.loaded(3, "AB=100[-9,+1];CB=30;AC=70;AC=71;CA=-71;BA=-100");
        int[] due = {0, 1, -1, 0};
        for (int i = 0; i < due.length; i++) {
            int d = i + 2;
            check.due("misfit(" + d + ")", due[i], () -> x.misfit(d));
        }
        DimensionChecker far = Drawings.path(12, -99999, 0, 0);
        far.addDimension(0, 11, 99999, 0, 0);
        far.addDimension(11, 0, -99999, -999, 999);
        check.due("the greatest", 12 * 99999, () -> far.misfit(11));
        check.due("the least", -12 * 99999, () -> far.misfit(12));
    }

    private static void misfitOfNone(Check check) {
        DimensionChecker x = Drawings.full();
        check.numbersRefused("of 20", x, 20, d -> x.misfit(d));
        DimensionChecker y = Drawings.faces(2);
        check.numbersRefused("of none", y, 0, d -> y.misfit(d));
    }

    private static void misfitOfNotDoubled(Check check) {
        DimensionChecker x = Drawings.full();
        check.refused("the first", STATE, x, () -> x.misfit(0));
        check.due("the second", 1, () -> x.misfit(1));
        check.due("the last", 19, () -> x.misfit(19));
        DimensionChecker y = Drawings.loaded(3, "AB=1;AB=2;BC=3");
        check.refused("the last", STATE, y, () -> y.misfit(2));
    }

    // ---- promise 23

    private static void contradictions(Sentences s) {
        s.section("Promise 23");
        s.test("Counts the doubled dimensions that contradict their chain",
                AgreementSentences::doubledAlone);
        s.test("whose upper limit is less than the least gap between their faces",
                AgreementSentences::belowChain);
        s.test("or whose lower limit is greater than the greatest gap",
                AgreementSentences::aboveChain);
        s.test("Returns the number of such dimensions.", AgreementSentences::howMany);
    }

    private static void contradicting(Check check, String list, int want) {
        DimensionChecker x = Drawings.loaded(3, list);
        check.due(list, want, () -> x.contradictions());
    }

    private static void doubledAlone(Check check) {
        contradicting(check, "AB=1;BC=2", 0);
        contradicting(check, "AB=1;BC=2;AC=3", 0);
        contradicting(check, "AB=1;BC=2;AC=4", 1);
        contradicting(check, "AB=1;AB=2;BC=3", 1);
        // The two doubled ones contradict one another, but not the chain.
        contradicting(check, "AB=10[-5,+5];AB=5;AB=15", 0);
    }

    private static void belowChain(Check check) {
        contradicting(check, "AB=100[-5,+5];AB=90[+0,+5]", 0);
        contradicting(check, "AB=100[-5,+5];AB=90[+0,+4]", 1);
        contradicting(check, "AB=100[-5,+5];BA=-100[-10,-5]", 0);
        contradicting(check, "AB=100[-5,+5];BA=-100[-10,-6]", 1);
        contradicting(check, "AB=60[-3,+1];CB=-40[-4,+2];AC=95[-9,+0]", 0);
        contradicting(check, "AB=60[-3,+1];CB=-40[-4,+2];AC=95[-9,-1]", 1);
    }

    private static void aboveChain(Check check) {
        contradicting(check, "AB=100[-5,+5];AB=110[-5,+0]", 0);
        contradicting(check, "AB=100[-5,+5];AB=110[-4,+0]", 1);
        contradicting(check, "AB=100[-5,+5];BA=-100[+5,+9]", 0);
        contradicting(check, "AB=100[-5,+5];BA=-100[+6,+9]", 1);
        contradicting(check, "AB=60[-3,+1];CB=-40[-4,+2];AC=105[+0,+9]", 0);
        contradicting(check, "AB=60[-3,+1];CB=-40[-4,+2];AC=105[+1,+9]", 1);
    }

    private static void howMany(Check check) {
        check.due("no dimension", 0, () -> new DimensionChecker().contradictions());
        DimensionChecker x = Drawings.loaded(2, "AB=100");
        for (int wrong = 1; wrong <= 19; wrong++) {
            // Too much from A to B, and from B to A as well, where -100 is due.
            x.addDimension(wrong % 2, 1 - wrong % 2, 100 + wrong, 0, 0);
            int count = wrong;
            check.due(count + " of them", count, () -> x.contradictions());
        }
        x.removeDimension(19);
        check.due("one removed", 18, () -> x.contradictions());
    }

    // ---- promise 24

    private static void isConsistent(Sentences s) {
        s.section("Promise 24");
        s.explains("Tells whether the drawing is consistent.");
        s.test("Returns true if it is consistent.", AgreementSentences::tellsConsistent);
    }

    private static void tellsConsistent(Check check) {
        check.due("no dimension", true, () -> new DimensionChecker().isConsistent());
        check.due("12 parts", true, () -> Drawings.faces(12).isConsistent());
        check.due("a tree", true, () -> Drawings.path(12, -99999, 999, 999).isConsistent());
        DimensionChecker ring = Drawings.path(12, 7, -1, 1);
        ring.addDimension(11, 0, -88, 0, 0);
        check.due("a ring of 12, at its end", true, () -> ring.isConsistent());
        ring.setDeviations(11, -1, -1);
        check.due("a ring of 12, beyond it", false, () -> ring.isConsistent());
        ring.setDeviations(11, 22, 22);
        check.due("at its other end", true, () -> ring.isConsistent());
        ring.setDeviations(11, 23, 23);
        check.due("beyond that", false, () -> ring.isConsistent());
        ring.removeDimension(11);
        check.due("the ring is open", true, () -> ring.isConsistent());
        wildDrawing(check);
    }

    private static void wildDrawing(Check check) {
        DimensionChecker x = Drawings.faces(12);
        for (int d = 0; d < 20; d++) {
            x.addDimension(d % 12, (d * 7 + 1) % 12, d % 2 == 0 ? 99999 : -99999, 999, 999);
        }
        check.due("20 great ones that disagree", false, () -> x.isConsistent());
        DimensionChecker y = Drawings.full();
        check.due("20 that disagree", false, () -> y.isConsistent());
        for (int d = 0; d < 20; d++) {
            y.setDeviations(d, d % 2 == 0 ? -d : -d - 1, d % 2 == 0 ? 1 - d : -d);
        }
        check.due("20 that agree", true, () -> y.isConsistent());
    }

    // ---- promise 25

    private static void tight(Sentences s) {
        s.section("Promise 25");
        s.explains("Returns a tight limit of the gap between two faces.");
        s.explains("Returns the limit.");
        s.test("true for the greatest gap, false for the least gap",
                AgreementSentences::greatestOrLeast);
        s.test("if a face does not exist", AgreementSentences::tightOfNoFace);
        s.test("if the faces are not connected", AgreementSentences::tightNotConnected);
        s.test("or the drawing is not consistent", AgreementSentences::tightNotConsistent);
    }

    private static void greatestOrLeast(Check check) {
        tight(check, Drawings.loaded(2, "AB=10[-3,+4]"), 0, 1, 7, 14);
        tight(check, Drawings.loaded(2, "BA=10[-3,+4]"), 0, 1, -14, -7);
        tight(check, Drawings.loaded(3, "AB=10[-1,+2];AC=30[-4,+8]"), 1, 2, 14, 29);
        tight(check, Drawings.loaded(2, "AB=10[-3,+4];AB=20[-9,-6]"), 0, 1, 11, 14);
        DimensionChecker x = Drawings.path(12, -99999, -999, 999);
        tight(check, x, 0, 11, -11 * 100998, -11 * 99000);
        for (int face = 0; face < 12; face++) {
            tight(check, x, face, face, 0, 0);
        }
        tight(check, Drawings.faces(12), 11, 11, 0, 0);
    }

    private static void tightOfNoFace(Check check) {
        DimensionChecker x = Drawings.path(12, 5, 0, 1);
        check.facesRefused("12 faces", x, 12, (a, b) -> x.tight(a, b, true));
        DimensionChecker y = Drawings.loaded(2, "AB=1");
        check.facesRefused("2 faces", y, 2, (a, b) -> y.tight(a, b, false));
    }

    private static void tightNotConnected(Check check) {
        DimensionChecker x = Drawings.loaded(12, "AB=1;KL=1");
        check.refused("two parts", STATE, x, () -> x.tight(0, 10, true));
        check.refused("two parts, backward", STATE, x, () -> x.tight(11, 1, false));
        check.refused("a face alone", STATE, x, () -> x.tight(0, 5, true));
        check.refused("two alone", STATE, x, () -> x.tight(5, 6, false));
        check.due("a face alone, to itself", 0, () -> x.tight(5, 5, false));
    }

    private static void tightNotConsistent(Check check) {
        DimensionChecker x = Drawings.loaded(5, "AB=1;CD=5[-1,+1];CD=3");
        check.refused("the part itself", STATE, x, () -> x.tight(2, 3, true));
        check.refused("another part", STATE, x, () -> x.tight(0, 1, false));
        check.refused("a face to itself", STATE, x, () -> x.tight(4, 4, true));
        check.refused("not connected either", STATE, x, () -> x.tight(0, 4, true));
        x.setDeviations(2, 1, 1);
        check.due("now they touch", 4, () -> x.tight(2, 3, true));
        x.setDeviations(2, 0, 0);
        x.removeDimension(2);
        check.due("now there is one", 6, () -> x.tight(2, 3, true));
    }
}
