/** Faces and dimensions, and promises 1 to 8. */
final class DrawingSentences {
    private static final Class<?> INDEX = Check.INDEX;
    private static final Class<?> ARGUMENT = Check.ARGUMENT;
    private static final Class<?> STATE = Check.STATE;
    private static final int[] FAR = {Integer.MIN_VALUE, Integer.MAX_VALUE};
    /** Pairs of which one number is just out of the range, or far out of it. */
    private static final int[][] OUT_OF_RANGE = {{-1000, 0}, {-1000, -999}, {-1000, -1000},
        {0, 1000}, {999, 1000}, {1000, 1000}, {-1000, 1000}, {FAR[0], 0}, {0, FAR[1]}};
    private static final int[][] CROSSED = {{1, 0}, {0, -1}, {999, 998}, {-998, -999},
        {999, -999}};
    private static final int[][] IN_RANGE = {{-999, -999}, {-999, 0}, {-999, 999}, {0, 0},
        {0, 999}, {998, 999}, {999, 999}, {-999, -998}};

    private DrawingSentences() {
    }

    static void tell(Sentences s) {
        s.section("What it is");
        s.test("An object is used for at most 512 calls after it has been made",
                DrawingSentences::lastCalls);
        facesAndDimensions(s);
        newObject(s);
        setFaces(s);
        addDimension(s);
        removeDimension(s);
        setDeviations(s);
        general(s);
        property(s);
        dimensionCount(s);
    }

    private static void lastCalls(Check check) {
        DimensionChecker x = new DimensionChecker();
        for (int calls = 0; calls < 508; calls += 4) {
            x.setFaces(12);
            x.addDimension(calls % 12, (calls + 1) % 12, calls, -calls, calls);
            x.append(32 + calls % 95);
            x.clearInput();
        }
        check.due("call 509", 504, () -> x.property(0, 2));
        check.due("call 510", 1, () -> x.addDimension(1, 0, -504, 1, 2));
        check.due("call 511", 1008, () -> x.gap(0, 1, 2));
        check.due("call 512", 503, () -> x.tight(0, 1, true));
    }

    // ---- faces and dimensions

    private static void facesAndDimensions(Sentences s) {
        s.section("Description");
        s.explains("Faces and dimensions.");
        s.test("A drawing has 2 to 12 faces", DrawingSentences::twoToTwelveFaces);
        s.test("numbered from 0 and", DrawingSentences::facesFromZero);
        s.test("written as the letters 'A' to 'L'", DrawingSentences::letters);
        s.test("It has at most 20 dimensions", DrawingSentences::atMostTwenty);
        s.test("numbered from 0 in the order in which they were added",
                DrawingSentences::orderOfAdding);
        s.explains("All lengths are integers");
        s.test("A dimension leads from one face to a different one.",
                DrawingSentences::differentFaces);
        s.test("a nominal value from -99999 to 99999", DrawingSentences::nominalRange);
        s.test("a lower and an upper deviation, each from -999 to 999",
                DrawingSentences::deviationRange);
        s.test("the lower one not greater than the upper one",
                DrawingSentences::lowerNotGreater);
        s.test("is at least the nominal value plus the lower deviation",
                DrawingSentences::atLeast);
        s.test("and at most the nominal value plus the upper deviation",
                DrawingSentences::atMost);
        s.test("Its width is the upper deviation minus the lower one.", DrawingSentences::width);
    }

    private static void twoToTwelveFaces(Check check) {
        DimensionChecker x = new DimensionChecker();
        for (int n = 2; n <= 12; n++) {
            int faces = n;
            check.due("setFaces(" + n + ")", 0, () -> x.setFaces(faces));
            check.due("parts of " + n, n - 1, () -> x.missing());
        }
        check.refused("one face", ARGUMENT, x, () -> x.setFaces(1));
        check.refused("13 faces", ARGUMENT, x, () -> x.setFaces(13));
    }

    private static void facesFromZero(Check check) {
        for (int n = 2; n <= 12; n++) {
            int last = n - 1;
            DimensionChecker x = Drawings.faces(n);
            check.due("the first of " + n, 0, () -> x.partOf(0));
            check.due("the last of " + n, last, () -> x.partOf(last));
            check.refused("before the first of " + n, INDEX, x, () -> x.partOf(-1));
            check.refused("behind the last of " + n, INDEX, x, () -> x.partOf(last + 1));
        }
    }

    private static void letters(Check check) {
        String letters = "ABCDEFGHIJKL";
        for (int face = 1; face < 12; face++) {
            DimensionChecker x = Drawings.loaded(12, "A" + letters.charAt(face) + "=5");
            check.row(letters.substring(face, face + 1), x, 0, 0, face);
        }
        DimensionChecker last = Drawings.loaded(12, "LA=5");
        check.row("L", last, 0, 11, 0);
        check.due("behind L", 0, () -> Drawings.written(12, "M").firstError());
        check.due("before A", 0, () -> Drawings.written(12, "@").firstError());
        check.due("a small letter", 0, () -> Drawings.written(12, "a").firstError());
    }

    private static void atMostTwenty(Check check) {
        DimensionChecker x = Drawings.full();
        check.due("twenty stand", 20, () -> x.dimensionCount());
        check.refused("one more", STATE, x, () -> x.addDimension(0, 1, 0, 0, 0));
        check.due("still twenty", 20, () -> x.dimensionCount());
    }

    private static void orderOfAdding(Check check) {
        DimensionChecker x = Drawings.faces(12);
        for (int d = 0; d < 20; d++) {
            int nominal = 1000 - 7 * d;
            check.due("the number of " + nominal, d,
                    () -> x.addDimension(11, 0, nominal, 0, 0));
        }
        for (int d = 0; d < 20; d++) {
            check.row("number " + d, x, d, 11, 0, 1000 - 7 * d, 0, 0);
        }
    }

    private static void differentFaces(Check check) {
        DimensionChecker x = Drawings.faces(12);
        for (int face = 0; face < 12; face++) {
            int same = face;
            check.refused("from " + face + " to itself", ARGUMENT, x,
                    () -> x.addDimension(same, same, 5, 0, 0));
            int next = (face + 1) % 12;
            check.due("to " + next, face, () -> x.addDimension(same, next, 5, 0, 0));
        }
    }

    private static void nominalRange(Check check) {
        DimensionChecker x = Drawings.faces(2);
        check.due("the least", 0, () -> x.addDimension(0, 1, -99999, 0, 0));
        check.due("the greatest", 1, () -> x.addDimension(0, 1, 99999, 0, 0));
        check.row("the least", x, 0, 0, 1, -99999);
        check.row("the greatest", x, 1, 0, 1, 99999);
        check.refused("below", ARGUMENT, x, () -> x.addDimension(0, 1, -100000, 0, 0));
        check.refused("above", ARGUMENT, x, () -> x.addDimension(0, 1, 100000, 0, 0));
    }

    private static void deviationRange(Check check) {
        DimensionChecker x = Drawings.faces(2);
        for (int i = 0; i < IN_RANGE.length; i++) {
            int[] pair = IN_RANGE[i];
            check.due(of(pair), i, () -> x.addDimension(0, 1, 5, pair[0], pair[1]));
            check.row(of(pair), x, i, 0, 1, 5, pair[0], pair[1]);
        }
        for (int[] pair : OUT_OF_RANGE) {
            check.refused(of(pair), ARGUMENT, x, () -> x.addDimension(0, 1, 5, pair[0], pair[1]));
        }
    }

    private static String of(int[] pair) {
        return pair[0] + " to " + pair[1];
    }

    private static void lowerNotGreater(Check check) {
        for (int lower : new int[] {-999, -1, 0, 1, 998}) {
            DimensionChecker x = Drawings.faces(2);
            check.due("both " + lower, 0, () -> x.addDimension(0, 1, 5, lower, lower));
            check.due("one less", 1, () -> x.addDimension(0, 1, 5, lower, lower + 1));
            check.refused("one greater", ARGUMENT, x,
                    () -> x.addDimension(0, 1, 5, lower + 1, lower));
        }
    }

    private static void atLeast(Check check) {
        DimensionChecker x = Drawings.loaded(2, "AB=100[-5,+3];AB=95");
        check.due("at its lower limit", true, () -> x.isConsistent());
        DimensionChecker y = Drawings.loaded(2, "AB=100[-5,+3];AB=94");
        check.due("below it", false, () -> y.isConsistent());
    }

    private static void atMost(Check check) {
        DimensionChecker x = Drawings.loaded(2, "AB=100[-5,+3];AB=103");
        check.due("at its upper limit", true, () -> x.isConsistent());
        DimensionChecker y = Drawings.loaded(2, "AB=100[-5,+3];AB=104");
        check.due("above it", false, () -> y.isConsistent());
    }

    private static void width(Check check) {
        int[][] pairs = {{0, 0}, {-999, 999}, {-3, 4}, {5, 9}, {-9, -5}, {999, 999}};
        for (int[] pair : pairs) {
            DimensionChecker x = Drawings.faces(2);
            x.addDimension(0, 1, 70, pair[0], pair[1]);
            check.due(of(pair), pair[1] - pair[0], () -> x.spread(0, 1));
            check.due(of(pair), pair[1] - pair[0], () -> x.setDeviations(0, 0, 0));
        }
    }

    // ---- promise 1

    private static void newObject(Sentences s) {
        s.section("Promise 1");
        s.test("a drawing of 2 faces", DrawingSentences::newFaces);
        s.test("without dimensions", DrawingSentences::newDimensions);
        s.test("an empty buffer", DrawingSentences::newBuffer);
    }

    private static void newFaces(Check check) {
        DimensionChecker x = new DimensionChecker();
        check.due("missing", 1, () -> x.missing());
        check.due("partOf(1)", 1, () -> x.partOf(1));
        check.refused("a third face", INDEX, x, () -> x.partOf(2));
        check.due("the two can be joined", 0, () -> x.addDimension(0, 1, 5, 0, 0));
    }

    private static void newDimensions(Check check) {
        DimensionChecker x = new DimensionChecker();
        check.due("dimensionCount", 0, () -> x.dimensionCount());
        check.refused("property(0, 0)", INDEX, x, () -> x.property(0, 0));
        check.due("setFaces tells none", 0, () -> x.setFaces(2));
    }

    private static void newBuffer(Check check) {
        DimensionChecker x = new DimensionChecker();
        check.due("firstError", 0, () -> x.firstError());
        check.refused("load", STATE, x, () -> x.load());
        check.due("clearInput", 0, () -> x.clearInput());
        check.due("append", 1, () -> x.append('A'));
    }

    // ---- promise 2

    private static void setFaces(Sentences s) {
        s.section("Promise 2");
        s.test("Begins a drawing with n faces", DrawingSentences::begunFaces);
        s.test("and without dimensions", DrawingSentences::begunDimensions);
        s.test("Returns the number of dimensions of the previous drawing.",
                DrawingSentences::dimensionsBefore);
        s.test("if n is not 2 to 12", DrawingSentences::wrongFaces);
    }

    private static void begunFaces(Check check) {
        DimensionChecker x = Drawings.faces(12);
        check.due("12 faces", 11, () -> x.partOf(11));
        x.setFaces(2);
        check.refused("2 faces, not 3", INDEX, x, () -> x.partOf(2));
        check.due("2 faces", 1, () -> x.partOf(1));
        x.setFaces(12);
        check.due("12 faces again", 11, () -> x.partOf(11));
        check.refused("12 faces, not 13", INDEX, x, () -> x.partOf(12));
    }

    private static void begunDimensions(Check check) {
        DimensionChecker x = Drawings.full();
        x.setFaces(2);
        check.due("dimensionCount", 0, () -> x.dimensionCount());
        check.refused("property(0, 0)", INDEX, x, () -> x.property(0, 0));
        check.due("no face is joined", 1, () -> x.partOf(1));
        check.due("no chain", -1, () -> x.chainLength(0, 1));
        check.due("numbers begin anew", 0, () -> x.addDimension(1, 0, 5, 0, 0));
        check.due("and it is not doubled", false, () -> x.isDoubled(0));
    }

    private static void dimensionsBefore(Check check) {
        DimensionChecker x = Drawings.full();
        check.due("twenty", 20, () -> x.setFaces(3));
        check.due("none", 0, () -> x.setFaces(3));
        x.addDimension(0, 1, 5, 0, 0);
        check.due("one", 1, () -> x.setFaces(12));
    }

    private static void wrongFaces(Check check) {
        DimensionChecker x = Drawings.loaded(3, "AB=5;BC=6");
        Drawings.write(x, "CA=");
        for (int n : new int[] {1, 13, 0, -1, -2, -12, 14, FAR[0], FAR[1]}) {
            check.refused("setFaces(" + n + ")", ARGUMENT, x, () -> x.setFaces(n));
        }
        check.due("the dimensions are there", 2, () -> x.setFaces(2));
        check.due("12 is right", 0, () -> x.setFaces(12));
    }

    // ---- promise 3

    private static void addDimension(Sentences s) {
        s.section("Promise 3");
        s.test("Adds a dimension.", DrawingSentences::adds);
        s.test("Returns the number of the dimension.", DrawingSentences::addedNumber);
        s.test("if from or to is not a face", DrawingSentences::addedToNoFace);
        s.test("if from and to are the same face", DrawingSentences::addedToItself);
        s.test("a number is out of range", DrawingSentences::addedOutOfRange);
        s.test("or lower is greater than upper", DrawingSentences::addedCrossed);
        s.test("if there are 20 dimensions", DrawingSentences::addedToTwenty);
    }

    private static void adds(Check check) {
        DimensionChecker x = Drawings.loaded(12, "AB=5[-1,+2]");
        x.addDimension(11, 2, -99999, -999, 999);
        check.row("the one before", x, 0, 0, 1, 5, -1, 2);
        check.row("the new one", x, 1, 11, 2, -99999, -999, 999);
        check.due("dimensionCount", 2, () -> x.dimensionCount());
        check.due("its faces are joined", 2, () -> x.partOf(11));
    }

    private static void addedNumber(Check check) {
        DimensionChecker x = Drawings.faces(2);
        for (int d = 0; d < 20; d++) {
            check.due("number " + d, d, () -> x.addDimension(1, 0, 5, 0, 0));
        }
        x.removeDimension(3);
        check.due("the last again", 19, () -> x.addDimension(1, 0, 5, 0, 0));
    }

    private static void addedToNoFace(Check check) {
        for (int n : new int[] {2, 3, 11, 12}) {
            DimensionChecker x = Drawings.faces(n);
            check.facesRefused(n + " faces", x, n, (a, b) -> x.addDimension(a, b, 5, 0, 0));
            check.due("the last face", 0, () -> x.addDimension(n - 1, 0, 5, 0, 0));
            check.due("to the last face", 1, () -> x.addDimension(0, n - 1, 5, 0, 0));
        }
    }

    private static void addedToItself(Check check) {
        DimensionChecker x = Drawings.faces(2);
        check.refused("from 0 to 0", ARGUMENT, x, () -> x.addDimension(0, 0, 5, 0, 0));
        check.refused("from 1 to 1", ARGUMENT, x, () -> x.addDimension(1, 1, 5, 0, 0));
    }

    private static void addedOutOfRange(Check check) {
        DimensionChecker x = Drawings.faces(2);
        for (int nominal : new int[] {-100000, 100000, FAR[0], FAR[1]}) {
            check.refused("nominal " + nominal, ARGUMENT, x,
                    () -> x.addDimension(0, 1, nominal, 0, 0));
        }
        for (int[] pair : OUT_OF_RANGE) {
            check.refused(of(pair), ARGUMENT, x, () -> x.addDimension(0, 1, 5, pair[0], pair[1]));
        }
    }

    private static void addedCrossed(Check check) {
        DimensionChecker x = Drawings.faces(2);
        for (int[] pair : CROSSED) {
            check.refused(of(pair), ARGUMENT, x, () -> x.addDimension(0, 1, 5, pair[0], pair[1]));
        }
    }

    private static void addedToTwenty(Check check) {
        DimensionChecker x = Drawings.full();
        x.removeDimension(19);
        check.due("to 19", 19, () -> x.addDimension(0, 1, 5, 0, 0));
        check.refused("to 20", STATE, x, () -> x.addDimension(0, 1, 5, 0, 0));
        x.removeDimension(0);
        check.due("to 19 again", 19, () -> x.addDimension(0, 1, 5, 0, 0));
    }

    // ---- promise 4

    private static void removeDimension(Sentences s) {
        s.section("Promise 4");
        s.test("Removes a dimension.", DrawingSentences::removes);
        s.test("The numbers of the dimensions behind it decrease by 1.",
                DrawingSentences::numbersDecrease);
        s.test("Returns the number of dimensions left.", DrawingSentences::numberLeft);
        s.test("if the dimension does not exist", DrawingSentences::removedNone);
    }

    private static void removes(Check check) {
        DimensionChecker x = Drawings.loaded(4, "AB=5;BC=6;CD=7");
        x.removeDimension(1);
        check.due("C is apart from A", 2, () -> x.partOf(2));
        check.due("D stays with C", 2, () -> x.partOf(3));
        x.removeDimension(1);
        check.due("D is apart", 3, () -> x.partOf(3));
        x.removeDimension(0);
        check.due("all are apart", 3, () -> x.missing());
    }

    private static void numbersDecrease(Check check) {
        for (int gone : new int[] {0, 1, 10, 18, 19}) {
            DimensionChecker x = Drawings.full();
            x.removeDimension(gone);
            for (int d = 0; d < 19; d++) {
                int old = d < gone ? d : d + 1;
                check.row(gone + " removed", x, d, old % 2, 1 - old % 2, old, 0, 1);
            }
            check.refused("the number 19", INDEX, x, () -> x.property(19, 0));
        }
    }

    private static void numberLeft(Check check) {
        DimensionChecker x = Drawings.full();
        for (int left = 19; left >= 0; left--) {
            check.due("number left", left, () -> x.removeDimension(0));
        }
    }

    private static void removedNone(Check check) {
        DimensionChecker x = Drawings.full();
        check.numbersRefused("of 20", x, 20, d -> x.removeDimension(d));
        DimensionChecker y = Drawings.loaded(2, "AB=5");
        check.numbersRefused("of 1", y, 1, d -> y.removeDimension(d));
        y.removeDimension(0);
        check.numbersRefused("of none", y, 0, d -> y.removeDimension(d));
    }

    // ---- promise 5

    private static void setDeviations(Sentences s) {
        s.section("Promise 5");
        s.test("Sets the deviations of a dimension.", DrawingSentences::setsDeviations);
        s.test("Returns its width before.", DrawingSentences::widthBefore);
        s.test("if the dimension does not exist", DrawingSentences::deviationsOfNone);
        s.test("if a number is out of range", DrawingSentences::deviationsOutOfRange);
        s.test("or lower is greater than upper", DrawingSentences::deviationsCrossed);
    }

    private static void setsDeviations(Check check) {
        DimensionChecker x = Drawings.full();
        for (int[] pair : IN_RANGE) {
            x.setDeviations(0, pair[0], pair[1]);
            check.row(of(pair), x, 0, 0, 1, 0, pair[0], pair[1]);
            x.setDeviations(19, pair[0], pair[1]);
            check.row(of(pair), x, 19, 1, 0, 19, pair[0], pair[1]);
        }
        check.row("the others stay", x, 1, 1, 0, 1, 0, 1);
        check.row("the others stay", x, 18, 0, 1, 18, 0, 1);
    }

    private static void widthBefore(Check check) {
        DimensionChecker x = Drawings.loaded(2, "AB=5");
        check.due("the least", 0, () -> x.setDeviations(0, -999, 999));
        check.due("the greatest", 1998, () -> x.setDeviations(0, -999, 999));
        check.due("the greatest again", 1998, () -> x.setDeviations(0, 999, 999));
        check.due("none", 0, () -> x.setDeviations(0, -3, -2));
        check.due("one", 1, () -> x.setDeviations(0, 0, 0));
    }

    private static void deviationsOfNone(Check check) {
        DimensionChecker x = Drawings.full();
        check.numbersRefused("of 20", x, 20, d -> x.setDeviations(d, 0, 0));
        DimensionChecker y = Drawings.faces(2);
        check.numbersRefused("of none", y, 0, d -> y.setDeviations(d, 0, 0));
    }

    private static void deviationsOutOfRange(Check check) {
        DimensionChecker x = Drawings.loaded(2, "AB=5[-1,+2]");
        for (int[] pair : OUT_OF_RANGE) {
            check.refused(of(pair), ARGUMENT, x, () -> x.setDeviations(0, pair[0], pair[1]));
        }
    }

    private static void deviationsCrossed(Check check) {
        DimensionChecker x = Drawings.loaded(2, "AB=5[-1,+2]");
        for (int[] pair : CROSSED) {
            check.refused(of(pair), ARGUMENT, x, () -> x.setDeviations(0, pair[0], pair[1]));
        }
        check.due("both the same", 3, () -> x.setDeviations(0, 1, 1));
    }

    // ---- promise 6

    private static void general(Sentences s) {
        s.section("Promise 6");
        s.test("to all dimensions whose deviations are both 0", DrawingSentences::bothZero);
        s.test("the upper deviation becomes t, and the lower one -t",
                check -> tolerances(check, 'f', 5, 5, 10, 15, 20, 30));
        s.test("on the absolute nominal value", DrawingSentences::absoluteValue);
        s.explains("absolute nominal value up to 300 up to 600 up to 3000 up to 12000");
        s.test("t for grade 'f' 5 5 10 15 20 30",
                check -> tolerances(check, 'f', 5, 5, 10, 15, 20, 30));
        s.test("t for grade 'm' 10 10 20 30 50 80",
                check -> tolerances(check, 'm', 10, 10, 20, 30, 50, 80));
        s.test("t for grade 'c' 20 30 50 80 120 200",
                check -> tolerances(check, 'c', 20, 30, 50, 80, 120, 200));
        s.test("t for grade 'v' 50 50 100 150 250 400",
                check -> tolerances(check, 'v', 50, 50, 100, 150, 250, 400));
        s.test("Returns how many dimensions were changed.", DrawingSentences::howManyGeneral);
        s.test("if grade is none of these letters", DrawingSentences::noGrade);
    }

    private static void bothZero(Check check) {
        DimensionChecker x = Drawings.loaded(2,
                "AB=5;AB=5[+0,+1];AB=5[-1,+0];BA=5[-0,+0];AB=5[+1,+1]");
        check.due("general", 2, () -> x.general('m'));
        check.row("both 0", x, 0, 0, 1, 5, -10, 10);
        check.row("the upper one not 0", x, 1, 0, 1, 5, 0, 1);
        check.row("the lower one not 0", x, 2, 0, 1, 5, -1, 0);
        check.row("both 0, and doubled", x, 3, 1, 0, 5, -10, 10);
        check.row("a width of 0 alone", x, 4, 0, 1, 5, 1, 1);
    }

    /** Both ends of each column of the table, and the nominal values with both signs. */
    private static void tolerances(Check check, char grade, int... row) {
        int[] ends = {0, 300, 301, 600, 601, 3000, 3001, 12000, 12001, 40000, 40001, 99999};
        for (int i = 0; i < ends.length; i++) {
            int t = row[i / 2];
            for (int nominal : new int[] {ends[i], -ends[i]}) {
                DimensionChecker x = Drawings.faces(2);
                x.addDimension(0, 1, nominal, 0, 0);
                check.due(grade + " of " + nominal, 1, () -> x.general(grade));
                check.row(grade + " of " + nominal, x, 0, 0, 1, nominal, -t, t);
            }
        }
    }

    private static void absoluteValue(Check check) {
        DimensionChecker x = Drawings.faces(2);
        int[] nominals = {-300, -301, -600, -601, -40000, -40001, -99999};
        int[] due = {20, 30, 30, 50, 120, 200, 200};
        for (int nominal : nominals) {
            x.addDimension(0, 1, nominal, 0, 0);
        }
        x.general('c');
        for (int d = 0; d < due.length; d++) {
            check.row("below 0", x, d, 0, 1, nominals[d], -due[d], due[d]);
        }
    }

    private static void howManyGeneral(Check check) {
        DimensionChecker x = Drawings.faces(2);
        check.due("of none", 0, () -> x.general('f'));
        for (int d = 0; d < 20; d++) {
            x.addDimension(0, 1, 5 * d, 0, 0);
        }
        check.due("of 20", 20, () -> x.general('f'));
        check.due("none is left", 0, () -> x.general('v'));
        x.setDeviations(19, 0, 0);
        check.due("the last alone", 1, () -> x.general('v'));
    }

    private static void noGrade(Check check) {
        DimensionChecker x = Drawings.loaded(2, "AB=5");
        // The letters beside the grades, capitals, and those whose low byte is a grade's.
        String letters = "eglnbduwFMCV 0";
        for (char letter : letters.toCharArray()) {
            check.refused("general " + letter, ARGUMENT, x, () -> x.general(letter));
        }
        for (int code : new int[] {0, 255, 'f' + 256, 'm' + 256, 'c' + 256, 'v' + 256, 65535}) {
            check.refused("general " + code, ARGUMENT, x, () -> x.general((char) code));
        }
        DimensionChecker none = Drawings.faces(2);
        check.refused("of no dimension", ARGUMENT, none, () -> none.general('x'));
    }

    // ---- promises 7 and 8

    private static void property(Sentences s) {
        s.section("Promise 7");
        s.test("Returns a property of a dimension.", DrawingSentences::properties);
        s.test("0 for the face from which it leads, 1 for the face to which it leads, 2 for the"
                + " nominal value, 3 for the lower deviation, 4 for the upper deviation",
                DrawingSentences::kindsOfProperty);
        s.explains("Returns the property.");
        s.test("if the dimension does not exist", DrawingSentences::propertyOfNone);
        s.test("if what is not 0 to 4", DrawingSentences::noProperty);
    }

    private static void properties(Check check) {
        DimensionChecker x = Drawings.full();
        check.row("the first", x, 0, 0, 1, 0, 0, 1);
        check.row("the last", x, 19, 1, 0, 19, 0, 1);
    }

    private static void kindsOfProperty(Check check) {
        DimensionChecker x = Drawings.faces(12);
        x.addDimension(11, 4, -99999, -998, -997);
        check.row("its own five", x, 0, 11, 4, -99999, -998, -997);
    }

    private static void propertyOfNone(Check check) {
        DimensionChecker x = Drawings.full();
        check.numbersRefused("of 20", x, 20, d -> x.property(d, 0));
        DimensionChecker y = Drawings.faces(2);
        check.numbersRefused("of none", y, 0, d -> y.property(d, 4));
    }

    private static void noProperty(Check check) {
        DimensionChecker x = Drawings.loaded(2, "AB=5");
        for (int what : new int[] {-1, 5, FAR[0], FAR[1]}) {
            check.refused("what " + what, ARGUMENT, x, () -> x.property(0, what));
        }
    }

    private static void dimensionCount(Sentences s) {
        s.section("Promise 8");
        s.test("Returns the number of dimensions.", DrawingSentences::counts);
    }

    private static void counts(Check check) {
        DimensionChecker x = Drawings.faces(2);
        for (int d = 0; d < 20; d++) {
            check.due("before the next", d, () -> x.dimensionCount());
            x.addDimension(0, 1, 5, 0, 0);
        }
        check.due("all twenty", 20, () -> x.dimensionCount());
        x.removeDimension(7);
        check.due("one removed", 19, () -> x.dimensionCount());
        Drawings.write(x, "AB=1;BA=2");
        check.due("the buffer does not count", 19, () -> x.dimensionCount());
        x.load();
        check.due("loaded", 2, () -> x.dimensionCount());
        x.setFaces(2);
        check.due("a new drawing", 0, () -> x.dimensionCount());
    }
}
