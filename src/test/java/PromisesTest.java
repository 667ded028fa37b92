/** Each promise of the document by its number: ordinary inputs, edges and wrong inputs. */
public final class PromisesTest {
    private static final Check CHECK = new Check("promises");
    private static final Class<?> INDEX = Check.INDEX;
    private static final Class<?> ARGUMENT = Check.ARGUMENT;
    private static final Class<?> STATE = Check.STATE;
    private static final int[] FAR = {Integer.MIN_VALUE, Integer.MAX_VALUE};

    public static void main(String[] args) {
        newObject();
        setFaces();
        addDimension();
        addDimensionRefused();
        removeDimension();
        setDeviations();
        general();
        property();
        dimensionCount();
        append();
        clearInput();
        firstError();
        load();
        isDoubled();
        missing();
        partOf();
        chainLength();
        chainDimension();
        gap();
        spread();
        contributor();
        part();
        misfit();
        contradictions();
        isConsistent();
        tight();
        transfer();
        transferRefused();
        distribute();
        distributeRefused();
        digest();
        CHECK.end();
    }

    // ---- promise 1

    private static void newObject() {
        DimensionChecker x = new DimensionChecker();
        CHECK.due("1: dimensionCount", 0, () -> x.dimensionCount());
        CHECK.due("1: missing", 1, () -> x.missing());
        CHECK.due("1: partOf(1)", 1, () -> x.partOf(1));
        CHECK.refused("1: partOf(2)", INDEX, x, () -> x.partOf(2));
        CHECK.due("1: firstError", 0, () -> x.firstError());
        CHECK.due("1: isConsistent", true, () -> x.isConsistent());
        CHECK.due("1: clearInput", 0, () -> x.clearInput());
        CHECK.due("1: another object keeps apart", 0, () -> {
            new DimensionChecker().addDimension(0, 1, 5, 0, 0);
            return x.dimensionCount();
        });
    }

    // ---- promise 2

    private static void setFaces() {
        DimensionChecker x = Drawings.loaded(3, "AB=5;BC=6");
        Drawings.write(x, "AC");
        for (int n : new int[] {1, 0, -1, 13, FAR[0], FAR[1]}) {
            CHECK.refused("2: setFaces(" + n + ")", ARGUMENT, x, () -> x.setFaces(n));
        }
        CHECK.due("2: setFaces(12)", 2, () -> x.setFaces(12));
        CHECK.due("2: dimensionCount", 0, () -> x.dimensionCount());
        CHECK.due("2: missing", 11, () -> x.missing());
        CHECK.due("2: partOf(11)", 11, () -> x.partOf(11));
        CHECK.due("2: the buffer stays", 2, () -> x.firstError());
        CHECK.due("2: setFaces(2)", 0, () -> x.setFaces(2));
        CHECK.due("2: firstError of fewer faces", 1, () -> x.firstError());
        CHECK.refused("2: partOf(2)", INDEX, x, () -> x.partOf(2));
    }

    // ---- promise 3

    private static void addDimension() {
        DimensionChecker x = Drawings.faces(12);
        CHECK.due("3: greatest", 0, () -> x.addDimension(0, 11, 99999, 999, 999));
        CHECK.due("3: least", 1, () -> x.addDimension(11, 0, -99999, -999, -999));
        CHECK.due("3: widest", 2, () -> x.addDimension(1, 2, 0, -999, 999));
        CHECK.due("3: the same again", 3, () -> x.addDimension(1, 2, 0, -999, 999));
        CHECK.row("3", x, 0, 0, 11, 99999, 999, 999);
        CHECK.row("3", x, 1, 11, 0, -99999, -999, -999);
        CHECK.row("3", x, 2, 1, 2, 0, -999, 999);
        CHECK.due("3: joins faces", 0, () -> x.partOf(11));
        DimensionChecker twenty = Drawings.full();
        CHECK.due("3: twenty", 20, () -> twenty.dimensionCount());
        CHECK.row("3", twenty, 19, 1, 0, 19, 0, 1);
    }

    private static void addDimensionRefused() {
        DimensionChecker x = Drawings.faces(3);
        CHECK.facesRefused("3: addDimension", x, 3, (a, b) -> x.addDimension(a, b, 0, 0, 0));
        CHECK.refused("3: same face", ARGUMENT, x, () -> x.addDimension(1, 1, 0, 0, 0));
        for (int nominal : new int[] {-100000, 100000, FAR[0], FAR[1]}) {
            CHECK.refused("3: " + nominal, ARGUMENT, x, () -> x.addDimension(0, 1, nominal, 0, 0));
        }
        int[][] deviations = {{-1000, 0}, {0, 1000}, {1, 0}, {1000, 1000}, {-1000, -1000},
            {FAR[0], 0}, {0, FAR[1]}, {FAR[1], FAR[0]}};
        for (int[] pair : deviations) {
            CHECK.refused("3: " + pair[0] + " to " + pair[1], ARGUMENT, x,
                    () -> x.addDimension(0, 1, 0, pair[0], pair[1]));
        }
        CHECK.refused("3: index before argument", INDEX, x, () -> x.addDimension(3, 3, 0, 1, 0));
        DimensionChecker twenty = Drawings.full();
        CHECK.refused("3: a 21st", STATE, twenty, () -> twenty.addDimension(0, 1, 0, 0, 0));
        CHECK.refused("3: index before state", INDEX, twenty,
                () -> twenty.addDimension(0, 2, 0, 0, 0));
        CHECK.refused("3: argument before state", ARGUMENT, twenty,
                () -> twenty.addDimension(0, 1, 100000, 0, 0));
        CHECK.refused("3: same face before state", ARGUMENT, twenty,
                () -> twenty.addDimension(1, 1, 0, 0, 0));
    }

    // ---- promise 4

    private static void removeDimension() {
        DimensionChecker x = Drawings.loaded(3, "AB=1[-1,+2];BC=2;AC=3[-3,+4]");
        CHECK.numbersRefused("4: removeDimension", x, 3, d -> x.removeDimension(d));
        CHECK.due("4: doubled before", true, () -> x.isDoubled(2));
        CHECK.due("4: removeDimension(1)", 2, () -> x.removeDimension(1));
        CHECK.row("4", x, 0, 0, 1, 1, -1, 2);
        CHECK.row("4", x, 1, 0, 2, 3, -3, 4);
        CHECK.due("4: not doubled any more", false, () -> x.isDoubled(1));
        CHECK.due("4: partOf(2)", 0, () -> x.partOf(2));
        CHECK.due("4: the last", 1, () -> x.removeDimension(1));
        CHECK.due("4: its face is apart", 2, () -> x.partOf(2));
        CHECK.due("4: the first", 0, () -> x.removeDimension(0));
        CHECK.refused("4: none left", INDEX, x, () -> x.removeDimension(0));
        DimensionChecker twenty = Drawings.full();
        CHECK.due("4: of twenty", 19, () -> twenty.removeDimension(0));
        CHECK.row("4", twenty, 18, 1, 0, 19, 0, 1);
        CHECK.due("4: room for one", 19, () -> twenty.addDimension(0, 1, 7, 0, 0));
    }

    // ---- promise 5

    private static void setDeviations() {
        DimensionChecker x = Drawings.loaded(2, "AB=10[-2,+5]");
        CHECK.numbersRefused("5: setDeviations", x, 1, d -> x.setDeviations(d, 0, 0));
        CHECK.due("5: its width before", 7, () -> x.setDeviations(0, -999, 999));
        CHECK.due("5: the greatest width", 1998, () -> x.setDeviations(0, 4, 4));
        CHECK.row("5", x, 0, 0, 1, 10, 4, 4);
        int[][] wrong = {{5, 4}, {-1000, 0}, {0, 1000}, {1000, 1000}, {-1000, -1000},
            {FAR[0], 0}, {0, FAR[1]}, {FAR[1], FAR[0]}};
        for (int[] pair : wrong) {
            CHECK.refused("5: " + pair[0] + " to " + pair[1], ARGUMENT, x,
                    () -> x.setDeviations(0, pair[0], pair[1]));
        }
        CHECK.refused("5: index before argument", INDEX, x, () -> x.setDeviations(1, 1, 0));
    }

    // ---- promise 6

    private static void general() {
        int[] sizes = {0, 300, 301, 600, 601, 3000, 3001, 12000, 12001, 40000, 40001, 99999};
        String grades = "fmcv";
        int[][] due = {
            {5, 5, 5, 5, 10, 10, 15, 15, 20, 20, 30, 30},
            {10, 10, 10, 10, 20, 20, 30, 30, 50, 50, 80, 80},
            {20, 20, 30, 30, 50, 50, 80, 80, 120, 120, 200, 200},
            {50, 50, 50, 50, 100, 100, 150, 150, 250, 250, 400, 400},
        };
        for (int g = 0; g < 4; g++) {
            char grade = grades.charAt(g);
            for (int s = 0; s < sizes.length; s++) {
                tolerance(grade, sizes[s], due[g][s]);
                tolerance(grade, -sizes[s], due[g][s]);
            }
        }
        DimensionChecker x = Drawings.loaded(3, "AB=1;BC=2[-1,+0];AC=3;AC=3[+0,+1];AC=4[-0,+0]");
        for (char grade : new char[] {'F', 'M', 'a', 'x', 0, ' ', 65535}) {
            CHECK.refused("6: general " + (int) grade, ARGUMENT, x, () -> x.general(grade));
        }
        CHECK.due("6: both deviations 0", 3, () -> x.general('f'));
        CHECK.row("6", x, 1, 1, 2, 2, -1, 0);
        CHECK.row("6", x, 3, 0, 2, 3, 0, 1);
        CHECK.row("6: a doubled one", x, 2, 0, 2, 3, -5, 5);
        CHECK.due("6: nothing more to do", 0, () -> x.general('v'));
        CHECK.due("6: no dimension", 0, () -> Drawings.faces(2).general('c'));
    }

    private static void tolerance(char grade, int nominal, int due) {
        DimensionChecker x = Drawings.faces(2);
        x.addDimension(0, 1, nominal, 0, 0);
        CHECK.due("6: general(" + grade + ") of " + nominal, 1, () -> x.general(grade));
        CHECK.row("6: general(" + grade + ") of " + nominal, x, 0, 0, 1, nominal, -due, due);
    }

    // ---- promise 7

    private static void property() {
        DimensionChecker x = Drawings.loaded(12, "CL=-77[-8,-6];LC=5");
        CHECK.row("7", x, 0, 2, 11, -77, -8, -6);
        CHECK.row("7", x, 1, 11, 2, 5, 0, 0);
        CHECK.numbersRefused("7: property", x, 2, d -> x.property(d, 0));
        for (int what : new int[] {-1, 5, FAR[0], FAR[1]}) {
            CHECK.refused("7: property " + what, ARGUMENT, x, () -> x.property(0, what));
        }
        CHECK.refused("7: index before argument", INDEX, x, () -> x.property(2, 5));
    }

    // ---- promise 8

    private static void dimensionCount() {
        DimensionChecker x = Drawings.faces(3);
        CHECK.due("8: none", 0, () -> x.dimensionCount());
        x.addDimension(0, 1, 0, 0, 0);
        x.addDimension(0, 1, 0, 0, 0);
        CHECK.due("8: two", 2, () -> x.dimensionCount());
        x.removeDimension(0);
        CHECK.due("8: one", 1, () -> x.dimensionCount());
    }

    // ---- promise 9

    private static void append() {
        DimensionChecker x = Drawings.faces(2);
        for (int code : new int[] {31, 127, 0, -1, 233, FAR[0], FAR[1]}) {
            CHECK.refused("9: append " + code, ARGUMENT, x, () -> x.append(code));
        }
        CHECK.due("9: append(32)", 1, () -> x.append(32));
        CHECK.due("9: append(126)", 2, () -> x.append(126));
        for (int i = 3; i <= 60; i++) {
            CHECK.due("9: the character " + i, i, () -> x.append('A'));
        }
        CHECK.refused("9: a 61st", STATE, x, () -> x.append('A'));
        CHECK.refused("9: argument before state", ARGUMENT, x, () -> x.append(127));
    }

    // ---- promise 10

    private static void clearInput() {
        DimensionChecker x = Drawings.loaded(2, "AB=7");
        Drawings.write(x, "AB=8");
        CHECK.due("10: clearInput", 4, () -> x.clearInput());
        CHECK.due("10: again", 0, () -> x.clearInput());
        CHECK.due("10: the drawing stays", 7, () -> x.property(0, 2));
        CHECK.due("10: append begins anew", 1, () -> x.append('B'));
        CHECK.due("10: no error in it", 1, () -> x.firstError());
    }

    // ---- promise 11

    private static void firstError() {
        error(3, "", 0);
        error(3, "AB=1250[-5,+3];BC=80", 20);
        error(3, "A", 1);
        error(3, "D", 0);
        error(4, "D", 1);
        error(3, "a", 0);
        error(3, "@", 0);
        error(3, " AB=1", 0);
        error(3, ";", 0);
        error(3, "AA=1", 1);
        error(3, "AD=1", 1);
        error(3, "A=1", 1);
        error(12, "LA=1", 4);
        error(12, "AM=1", 1);
        error(3, "AB-1", 2);
        error(3, "AB==1", 3);
        error(3, "AB=+1", 3);
        error(3, "AB=--1", 4);
        error(3, "AB=-;", 4);
        error(3, "AB=-[", 4);
        error(3, "AB=;", 3);
        error(3, "AB=[", 3);
        error(3, "AB=:", 3);
        error(3, "AB=/", 3);
        error(3, "AB=12345", 8);
        error(3, "AB=-99999", 9);
        error(3, "AB=123456", 8);
        error(3, "AB=000000", 8);
        error(3, "AB=1 ", 4);
        error(3, "AB=1]", 4);
        error(3, "AB=1,", 4);
        error(3, "AB=1[5", 5);
        error(3, "AB=1[+,", 6);
        error(3, "AB=1[+-", 6);
        error(3, "AB=1[+999", 9);
        error(3, "AB=1[+1234", 9);
        error(3, "AB=1[+1]", 7);
        error(3, "AB=1[+1;", 7);
        error(3, "AB=1[+1,1", 8);
        error(3, "AB=1[+1,+]", 9);
        error(3, "AB=1[-1,+]", 9);
        error(3, "AB=1[+1,+9999", 12);
        error(3, "AB=1[+1,+1,", 10);
        error(3, "AB=1[+1,+1;", 10);
        error(3, "AB=1[+1,+0]", 10);
        error(3, "AB=1[+1,-2]", 10);
        error(3, "AB=1[-1,-2]", 10);
        error(3, "AB=1[-2,-1]", 11);
        error(3, "AB=1[-0,+0]", 11);
        error(3, "AB=1[+0,-0]", 11);
        error(3, "AB=1[+1,+0", 10);
        error(3, "AB=1[+1,+05]", 12);
        error(3, "AB=1[-1,+1][", 11);
        error(3, "AB=1[-1,+1]1", 11);
        error(3, "AB=1;;", 5);
        error(3, "AB=1;A", 6);
        error(3, "AB=1;CC", 6);
        error(3, "AB=1[-1,+1];BC=1[+2,+1]", 22);
        error(2, "AB=1;BA=2;AB=3;BA=4;AB=5;BA=6;AB=7;BA=8;AB=9;BA=1;AB=2;BA=3;", 60);
    }

    private static void error(int faces, String text, int due) {
        DimensionChecker x = Drawings.faces(faces);
        String buffer = text.length() > 60 ? text.substring(0, 60) : text;
        Drawings.write(x, buffer);
        long before = x.digest();
        CHECK.due("11: firstError of " + buffer, due, () -> x.firstError());
        CHECK.compare("11: firstError changes nothing", before, x.digest());
    }

    // ---- promise 12

    private static void load() {
        DimensionChecker x = Drawings.faces(3);
        x.addDimension(0, 1, 1, 1, 1);
        x.addDimension(0, 2, 1, 1, 1);
        x.addDimension(1, 2, 1, 1, 1);
        String[] none = {"", "A", "AB", "AB=", "AB=-", "AB=1[", "AB=1[-", "AB=1[-1", "AB=1[-1,",
            "AB=1[-1,+", "AB=1[-1,+1", "AB=1;", "AB=1[-1,+1];", "AB=1x", "AD=1", "AB=1[+1,+0]"};
        for (String text : none) {
            Drawings.write(x, text);
            CHECK.refused("12: load of " + text, STATE, x, () -> x.load());
            x.clearInput();
        }
        Drawings.write(x, "CA=-120[-7,+003];AB=00045");
        CHECK.due("12: load", 2, () -> x.load());
        CHECK.row("12", x, 0, 2, 0, -120, -7, 3);
        CHECK.row("12", x, 1, 0, 1, 45, 0, 0);
        CHECK.due("12: dimensionCount", 2, () -> x.dimensionCount());
        CHECK.due("12: parts are found", 0, () -> x.missing());
        CHECK.due("12: the faces stay", 2, () -> x.chainLength(1, 2));
        CHECK.due("12: the buffer is cleared", 0, () -> x.clearInput());
        Drawings.write(x, "AB=1;AB=2;AB=3;AB=4;AB=5;AB=6;AB=7;AB=8;AB=9;AB=0;AB=-1;AB=1");
        CHECK.due("12: as many as the buffer takes", 12, () -> x.load());
        CHECK.row("12", x, 10, 0, 1, -1, 0, 0);
        CHECK.due("12: doubled", true, () -> x.isDoubled(11));
        Drawings.write(x, "BC=5[-999,+999]");
        CHECK.due("12: fewer than before", 1, () -> x.load());
        CHECK.row("12", x, 0, 1, 2, 5, -999, 999);
        CHECK.due("12: face 0 is apart", 1, () -> x.missing());
    }

    // ---- promise 13

    private static void isDoubled() {
        DimensionChecker x = Drawings.loaded(5, "AB=1;CD=1;BA=1;DB=1;AC=1;CA=1;AE=1");
        boolean[] due = {false, false, true, false, true, true, false};
        for (int d = 0; d < due.length; d++) {
            int asked = d;
            CHECK.due("13: isDoubled(" + d + ")", due[d], () -> x.isDoubled(asked));
        }
        CHECK.numbersRefused("13: isDoubled", x, 7, d -> x.isDoubled(d));
        x.removeDimension(0);
        CHECK.due("13: its double takes its place", false, () -> x.isDoubled(1));
    }

    // ---- promise 14

    private static void missing() {
        DimensionChecker x = Drawings.faces(5);
        CHECK.due("14: none given", 4, () -> x.missing());
        x.addDimension(4, 3, 1, 0, 0);
        CHECK.due("14: one given", 3, () -> x.missing());
        x.addDimension(3, 4, 1, 0, 0);
        CHECK.due("14: a doubled one helps nothing", 3, () -> x.missing());
        x.addDimension(0, 1, 1, 0, 0);
        x.addDimension(1, 4, 1, 0, 0);
        x.addDimension(2, 4, 1, 0, 0);
        CHECK.due("14: all given", 0, () -> x.missing());
    }

    // ---- promise 15

    private static void partOf() {
        DimensionChecker x = Drawings.loaded(6, "FE=1;DC=1;EC=1");
        int[] due = {0, 1, 2, 2, 2, 2};
        for (int face = 0; face < due.length; face++) {
            int asked = face;
            CHECK.due("15: partOf(" + face + ")", due[face], () -> x.partOf(asked));
        }
        x.addDimension(5, 1, 1, 0, 0);
        CHECK.due("15: a lower face comes to it", 1, () -> x.partOf(3));
        for (int face : new int[] {-1, 6, 12, FAR[0], FAR[1]}) {
            CHECK.refused("15: partOf " + face, INDEX, x, () -> x.partOf(face));
        }
    }

    // ---- promises 16 and 17

    private static void chainLength() {
        DimensionChecker x = Drawings.loaded(5, "BA=1;CB=1;AC=1;CD=1");
        CHECK.facesRefused("16: chainLength", x, 5, (a, b) -> x.chainLength(a, b));
        CHECK.due("16: to itself", 0, () -> x.chainLength(2, 2));
        CHECK.due("16: one", 1, () -> x.chainLength(0, 1));
        CHECK.due("16: not by the doubled one", 2, () -> x.chainLength(0, 2));
        CHECK.due("16: three", 3, () -> x.chainLength(3, 0));
        CHECK.due("16: not connected", -1, () -> x.chainLength(0, 4));
        CHECK.due("16: not connected, to itself", 0, () -> x.chainLength(4, 4));
        DimensionChecker longest = Drawings.faces(12);
        for (int face = 10; face >= 0; face--) {
            longest.addDimension(face, face + 1, face, 0, 0);
        }
        CHECK.due("16: the longest", 11, () -> longest.chainLength(0, 11));
        CHECK.due("17: its last", 0, () -> longest.chainDimension(0, 11, 10));
        CHECK.due("17: its last, backward", 10, () -> longest.chainDimension(11, 0, 10));
        CHECK.due("18: its gap", 55, () -> longest.gap(0, 11, 0));
    }

    private static void chainDimension() {
        DimensionChecker x = Drawings.loaded(5, "DC=1;AB=1;AC=1;BC=1");
        CHECK.facesRefused("17: chainDimension", x, 5, (a, b) -> x.chainDimension(a, b, 0));
        int[] due = {0, 2, 1};
        for (int i = 0; i < due.length; i++) {
            int index = i;
            CHECK.due("17: from D to B, " + i, due[i], () -> x.chainDimension(3, 1, index));
            CHECK.due("17: from B to D, " + i, due[2 - i], () -> x.chainDimension(1, 3, index));
        }
        for (int index : new int[] {-1, 3, 12, FAR[0], FAR[1]}) {
            CHECK.refused("17: index " + index, INDEX, x, () -> x.chainDimension(3, 1, index));
        }
        CHECK.refused("17: an empty chain", INDEX, x, () -> x.chainDimension(1, 1, 0));
        CHECK.refused("17: not connected", INDEX, x, () -> x.chainDimension(0, 4, 0));
    }

    // ---- promise 18

    private static void gap() {
        DimensionChecker x = Drawings.loaded(4, "AB=100[-5,+2];CB=30[-1,+7];AC=9");
        CHECK.facesRefused("18: gap", x, 4, (a, b) -> x.gap(a, b, 0));
        int[] forward = {70, 58, 73};
        int[] backward = {-70, -73, -58};
        for (int what = 0; what < 3; what++) {
            int asked = what;
            CHECK.due("18: gap(0, 2, " + what + ")", forward[what], () -> x.gap(0, 2, asked));
            CHECK.due("18: gap(2, 0, " + what + ")", backward[what], () -> x.gap(2, 0, asked));
            CHECK.due("18: to itself", 0, () -> x.gap(3, 3, asked));
            CHECK.refused("18: not connected", STATE, x, () -> x.gap(0, 3, asked));
        }
        for (int what : new int[] {-1, 3, FAR[0], FAR[1]}) {
            CHECK.refused("18: what " + what, ARGUMENT, x, () -> x.gap(0, 1, what));
        }
        CHECK.refused("18: index before argument", INDEX, x, () -> x.gap(0, 4, 3));
        CHECK.refused("18: argument before state", ARGUMENT, x, () -> x.gap(0, 3, 3));
        DimensionChecker far = Drawings.faces(12);
        for (int face = 0; face < 11; face++) {
            far.addDimension(face, face + 1, 99999, -999, 999);
        }
        CHECK.due("18: the greatest gap of all", 11 * 100998, () -> far.gap(0, 11, 2));
        CHECK.due("18: the least gap of all", -11 * 100998, () -> far.gap(11, 0, 1));
        CHECK.due("19: the greatest spread of all", 6626, () -> far.spread(11, 0));
        CHECK.due("25: the greatest limit of all", 11 * 100998, () -> far.tight(0, 11, true));
    }

    // ---- promise 19

    private static void spread() {
        DimensionChecker x = Drawings.loaded(4, "AB=100[-1,+2];CB=30[-4,+0];AC=9[-9,+9]");
        CHECK.facesRefused("19: spread", x, 4, (a, b) -> x.spread(a, b));
        CHECK.due("19: an exact root", 5, () -> x.spread(0, 2));
        CHECK.due("19: backward", 5, () -> x.spread(2, 0));
        CHECK.due("19: to itself", 0, () -> x.spread(3, 3));
        CHECK.refused("19: not connected", STATE, x, () -> x.spread(0, 3));
        CHECK.refused("19: index before state", INDEX, x, () -> x.spread(4, 3));
        x.setDeviations(0, 0, 2);
        CHECK.due("19: rounded down", 4, () -> x.spread(0, 2));
        x.setDeviations(0, 0, 0);
        x.setDeviations(1, -999, 999);
        CHECK.due("19: the greatest width", 1998, () -> x.spread(0, 2));
    }

    // ---- promise 20

    private static void contributor() {
        DimensionChecker x = Drawings.loaded(4, "CB=1[-2,+2];AB=1[-1,+3];AC=1[-9,+9]");
        CHECK.facesRefused("20: contributor", x, 4, (a, b) -> x.contributor(a, b));
        CHECK.due("20: the lowest of equals", 0, () -> x.contributor(0, 2));
        CHECK.due("20: backward too", 0, () -> x.contributor(2, 0));
        x.setDeviations(1, 0, 5);
        CHECK.due("20: the widest", 1, () -> x.contributor(0, 2));
        CHECK.due("20: the widest, backward", 1, () -> x.contributor(2, 0));
        CHECK.due("20: of the chain alone", 0, () -> x.contributor(1, 2));
        CHECK.due("20: an empty chain", -1, () -> x.contributor(3, 3));
        x.setDeviations(0, 0, 0);
        CHECK.due("20: a width of 0", 0, () -> x.contributor(1, 2));
        CHECK.refused("20: not connected", STATE, x, () -> x.contributor(3, 0));
        CHECK.refused("20: index before state", INDEX, x, () -> x.contributor(3, 4));
    }

    // ---- promise 21

    private static void part() {
        DimensionChecker x = Drawings.loaded(4, "AB=1[-1,+0];CB=1[-1,+1];AC=1[-9,+9]");
        CHECK.facesRefused("21: part", x, 4, (a, b) -> x.part(a, b, 0));
        CHECK.numbersRefused("21: part", x, 3, d -> x.part(0, 1, d));
        CHECK.due("21: a third", 1.0 / 3, () -> x.part(0, 2, 0));
        CHECK.due("21: two thirds", 2.0 / 3, () -> x.part(2, 0, 1));
        CHECK.due("21: all", 1.0, () -> x.part(0, 1, 0));
        CHECK.due("21: not of the chain", 0.0, () -> x.part(0, 1, 1));
        CHECK.due("21: doubled", 0.0, () -> x.part(0, 2, 2));
        CHECK.due("21: an empty chain", 0.0, () -> x.part(3, 3, 0));
        CHECK.refused("21: not connected", STATE, x, () -> x.part(0, 3, 0));
        CHECK.refused("21: index before state", INDEX, x, () -> x.part(0, 3, 3));
        x.setDeviations(0, 4, 4);
        CHECK.due("21: a width of 0", 0.0, () -> x.part(0, 2, 0));
        CHECK.due("21: a sum of 0", 0.0, () -> x.part(0, 1, 0));
    }

    // ---- promise 22

    private static void misfit() {
        DimensionChecker x = Drawings.loaded(3, "AB=100[-9,+1];CB=30;AC=75[-2,+2];CA=-71;BA=-100");
        CHECK.numbersRefused("22: misfit", x, 5, d -> x.misfit(d));
        CHECK.due("22: forward", 5, () -> x.misfit(2));
        CHECK.due("22: backward", -1, () -> x.misfit(3));
        CHECK.due("22: agrees", 0, () -> x.misfit(4));
        CHECK.refused("22: not doubled", STATE, x, () -> x.misfit(1));
    }

    // ---- promise 23

    private static void contradictions() {
        DimensionChecker x = Drawings.loaded(2, "AB=100[-5,+5]");
        CHECK.due("23: none doubled", 0, () -> x.contradictions());
        x.addDimension(0, 1, 90, 0, 5);
        CHECK.due("23: touches from below", 0, () -> x.contradictions());
        x.addDimension(0, 1, 90, 0, 4);
        CHECK.due("23: too small", 1, () -> x.contradictions());
        x.addDimension(1, 0, -110, 5, 9);
        CHECK.due("23: touches backward", 1, () -> x.contradictions());
        x.addDimension(1, 0, -110, 0, 4);
        CHECK.due("23: too great, backward", 2, () -> x.contradictions());
        x.addDimension(0, 1, 110, -5, 0);
        CHECK.due("23: touches from above", 2, () -> x.contradictions());
        x.addDimension(0, 1, 110, -4, 0);
        CHECK.due("23: too great", 3, () -> x.contradictions());
    }

    // ---- promise 24

    private static void isConsistent() {
        DimensionChecker x = Drawings.loaded(2, "AB=10[-5,+5];AB=5[-5,+0];AB=15[+0,+5]");
        CHECK.due("24: no contradiction with the chain", 0, () -> x.contradictions());
        CHECK.due("24: but the doubled ones disagree", false, () -> x.isConsistent());
        x.removeDimension(2);
        CHECK.due("24: one position left", true, () -> x.isConsistent());
        x.setDeviations(1, -5, -1);
        CHECK.due("24: none left", false, () -> x.isConsistent());
        DimensionChecker ring = Drawings.loaded(5, "DE=5;AB=10;BC=10;CA=-20");
        CHECK.due("24: a ring that closes", true, () -> ring.isConsistent());
        ring.setDeviations(3, 1, 1);
        CHECK.due("24: a ring that does not", false, () -> ring.isConsistent());
        CHECK.due("24: no dimension", true, () -> Drawings.faces(12).isConsistent());
        DimensionChecker wild = Drawings.faces(12);
        for (int d = 0; d < 20; d++) {
            wild.addDimension(d % 12, (d * 7 + 1) % 12, d % 2 == 0 ? 99999 : -99999, 999, 999);
        }
        CHECK.due("24: great numbers that disagree", false, () -> wild.isConsistent());
    }

    // ---- promise 25

    private static void tight() {
        DimensionChecker x = Drawings.loaded(4, "AB=100[-5,+5];CB=30[-2,+2];AC=70[-1,+12]");
        CHECK.facesRefused("25: tight", x, 4, (a, b) -> x.tight(a, b, true));
        CHECK.due("25: least gap", 69, () -> x.tight(0, 2, false));
        CHECK.due("25: greatest gap", 77, () -> x.tight(0, 2, true));
        CHECK.due("25: backward, least", -77, () -> x.tight(2, 0, false));
        CHECK.due("25: backward, greatest", -69, () -> x.tight(2, 0, true));
        CHECK.due("25: the chain itself is tightened", 97, () -> x.tight(0, 1, false));
        CHECK.due("25: to itself, least", 0, () -> x.tight(3, 3, false));
        CHECK.due("25: to itself, greatest", 0, () -> x.tight(0, 0, true));
        CHECK.refused("25: not connected", STATE, x, () -> x.tight(0, 3, true));
        CHECK.refused("25: index before state", INDEX, x, () -> x.tight(3, 4, true));
        x.addDimension(0, 1, 50, 0, 0);
        CHECK.refused("25: not consistent", STATE, x, () -> x.tight(0, 1, true));
        CHECK.refused("25: not consistent, another part", STATE, x, () -> x.tight(3, 3, true));
        DimensionChecker star = Drawings.loaded(3, "AB=10[-1,+2];AC=30[-4,+8]");
        CHECK.due("25: over face 0, least", 14, () -> star.tight(1, 2, false));
        CHECK.due("25: over face 0, greatest", 29, () -> star.tight(1, 2, true));
        CHECK.refused("25: index before that", INDEX, x, () -> x.tight(0, 4, true));
    }

    // ---- promise 26

    private static void transfer() {
        DimensionChecker x = Drawings.loaded(4,
                "BC=20[-4,+5];BA=-10[-1,+2];CD=7[-9,+9];AC=30[-9,+9]");
        // From A to B: nominal 10, least 8, greatest 11.
        CHECK.due("26: transfer(0, 0)", 6, () -> x.transfer(0, 0));
        CHECK.row("26", x, 0, 0, 2, 30, -3, 3);
        CHECK.due("26: the chain goes over the datum", 2, () -> x.chainLength(1, 2));
        CHECK.due("26: the other rows stay", 1, () -> x.property(1, 0));
        DimensionChecker y = Drawings.loaded(3, "BC=20[-4,+4];BC=21[-1,+1];AB=10[-1,+1]");
        CHECK.due("26: what is doubled changes", 6, () -> y.transfer(0, 0));
        CHECK.due("26: not doubled any more", false, () -> y.isDoubled(1));
        CHECK.due("26: doubled now", true, () -> y.isDoubled(2));
        DimensionChecker z = Drawings.loaded(3, "AB=10[-2,+2];BC=20[-2,+2]");
        CHECK.due("26: a width of 0", 0, () -> z.transfer(1, 0));
        CHECK.row("26", z, 1, 0, 2, 30, 0, 0);
        edgesOfTransfer();
    }

    private static void edgesOfTransfer() {
        DimensionChecker x = Drawings.faces(3);
        x.addDimension(0, 1, 50000, 0, 0);
        x.addDimension(1, 2, 49999, -999, 999);
        CHECK.due("26: the greatest nominal value", 1998, () -> x.transfer(1, 0));
        CHECK.row("26", x, 1, 0, 2, 99999, -999, 999);
        DimensionChecker y = Drawings.faces(3);
        y.addDimension(0, 1, 50000, 0, 0);
        y.addDimension(1, 2, 50000, -999, 999);
        CHECK.refused("26: a nominal value out of range", STATE, y, () -> y.transfer(1, 0));
        y.addDimension(1, 2, 1, -1, 1);
        CHECK.refused("26: doubled", STATE, y, () -> y.transfer(2, 0));
        DimensionChecker below = Drawings.faces(3);
        below.addDimension(1, 0, 50000, 0, 0);
        below.addDimension(1, 2, -50000, 0, 0);
        CHECK.refused("26: below the range", STATE, below, () -> below.transfer(1, 0));
        DimensionChecker high = Drawings.faces(3);
        high.addDimension(0, 1, 5, 2, 2);
        high.addDimension(1, 2, 5, 900, 998);
        CHECK.refused("26: an upper deviation of 1000", STATE, high, () -> high.transfer(1, 0));
        high.setDeviations(1, 900, 997);
        CHECK.due("26: one of 999", 97, () -> high.transfer(1, 0));
        DimensionChecker low = Drawings.faces(3);
        low.addDimension(1, 0, 5, 2, 2);
        low.addDimension(1, 2, 5, -998, -900);
        CHECK.refused("26: a lower deviation of -1000", STATE, low, () -> low.transfer(1, 0));
        low.setDeviations(1, -997, -900);
        CHECK.due("26: one of -999", 97, () -> low.transfer(1, 0));
    }

    private static void transferRefused() {
        DimensionChecker x = Drawings.loaded(4, "AB=10[-2,+2];BC=20[-1,+2];AC=9;CA=1[-8,+8]");
        CHECK.numbersRefused("26: transfer", x, 4, d -> x.transfer(d, 0));
        for (int datum : new int[] {-1, 4, 12, FAR[0], FAR[1]}) {
            CHECK.refused("26: datum " + datum, INDEX, x, () -> x.transfer(0, datum));
        }
        CHECK.refused("26: datum is from", ARGUMENT, x, () -> x.transfer(0, 0));
        CHECK.refused("26: datum is to", ARGUMENT, x, () -> x.transfer(0, 1));
        CHECK.refused("26: argument before doubled", ARGUMENT, x, () -> x.transfer(2, 2));
        CHECK.refused("26: index before argument", INDEX, x, () -> x.transfer(4, 4));
        CHECK.refused("26: doubled", STATE, x, () -> x.transfer(3, 1));
        CHECK.refused("26: no chain", STATE, x, () -> x.transfer(0, 3));
        CHECK.refused("26: limits would cross", STATE, x, () -> x.transfer(1, 0));
        x.setDeviations(0, 0, 0);
        CHECK.refused("26: the chain contains it", STATE, x, () -> x.transfer(0, 2));
        CHECK.due("26: limits do not cross", 3, () -> x.transfer(1, 0));
    }

    // ---- promise 27

    private static void distribute() {
        DimensionChecker x = Drawings.loaded(4, "BC=1[-3,+0];BA=1[-1,+2];CD=1[+1,+2];AC=9[-9,+9]");
        // From A to D: widths 3, 3 and 1, in the order 1, 0, 2 of the chain.
        CHECK.due("27: a wider one", 3, () -> x.distribute(0, 3, 19));
        // 19 * 3 / 7 = 8, 8 and 2; the 1 that is left goes to number 0.
        CHECK.row("27", x, 0, 1, 2, 1, -6, 3);
        CHECK.row("27", x, 1, 1, 0, 1, -4, 4);
        CHECK.row("27", x, 2, 2, 3, 1, 0, 2);
        CHECK.row("27: not of the chain", x, 3, 0, 2, 9, -9, 9);
        CHECK.due("27: the same again", 0, () -> x.distribute(3, 0, 19));
        CHECK.due("27: nothing left", 3, () -> x.distribute(0, 3, 0));
        CHECK.row("27", x, 0, 1, 2, 1, -2, -2);
        CHECK.row("27", x, 1, 1, 0, 1, 0, 0);
        CHECK.row("27", x, 2, 2, 3, 1, 1, 1);
        CHECK.refused("27: s is 0 now", STATE, x, () -> x.distribute(0, 3, 0));
        DimensionChecker y = Drawings.loaded(4, "AB=1;BC=1[-1,+1];CD=1[-1,+1]");
        CHECK.due("27: a width of 0 gets its 1 too", 3, () -> y.distribute(0, 3, 3));
        CHECK.row("27", y, 0, 0, 1, 1, -1, 0);
        CHECK.row("27", y, 1, 1, 2, 1, -1, 0);
        CHECK.row("27", y, 2, 2, 3, 1, -1, 0);
        CHECK.due("27: the greatest width", 1, () -> {
            DimensionChecker z = Drawings.loaded(2, "AB=1[-1,+1]");
            return z.distribute(0, 1, 1998);
        });
    }

    private static void distributeRefused() {
        DimensionChecker x = Drawings.loaded(4, "AB=1[+0,+2];BC=1[-1,+1];AC=1[-1,+1]");
        CHECK.facesRefused("27: distribute", x, 4, (a, b) -> x.distribute(a, b, 1));
        for (int width : new int[] {-1, 1999, FAR[0], FAR[1]}) {
            CHECK.refused("27: width " + width, ARGUMENT, x, () -> x.distribute(0, 1, width));
        }
        CHECK.refused("27: index before argument", INDEX, x, () -> x.distribute(0, 4, -1));
        CHECK.refused("27: argument before state", ARGUMENT, x, () -> x.distribute(0, 3, -1));
        CHECK.refused("27: not connected", STATE, x, () -> x.distribute(0, 3, 1));
        CHECK.refused("27: an empty chain", STATE, x, () -> x.distribute(0, 0, 1));
        CHECK.refused("27: an upper deviation out of range", STATE, x,
                () -> x.distribute(0, 1, 1998));
        CHECK.due("27: just in range", 1, () -> x.distribute(0, 1, 1997));
        CHECK.row("27", x, 0, 0, 1, 1, -998, 999);
        DimensionChecker y = Drawings.loaded(3, "AB=1[-1,+1];BC=1[+997,+999]");
        CHECK.refused("27: the second too high, so the first stays", STATE, y,
                () -> y.distribute(0, 2, 8));
        y.setDeviations(1, -999, -997);
        CHECK.refused("27: the second too low, so the first stays", STATE, y,
                () -> y.distribute(0, 2, 8));
    }

    // ---- promise 28

    private static void digest() {
        DimensionChecker x = new DimensionChecker();
        // faces 2, dimensions 0, parts 0 and 1, contradictions 0, consistent 1, length 0
        long hash = hash(2, 0, 0, 1, 0, 1, 0);
        CHECK.due("28: a new object", hash, () -> x.digest());
        CHECK.due("28: twice the same", hash, () -> x.digest());
        Drawings.write(x, "AB");
        CHECK.due("28: with input", hash(2, 0, 0, 1, 0, 1, 2, 65, 66), () -> x.digest());
        DimensionChecker y = Drawings.loaded(3, "BA=10[-1,+2]");
        long[] due = {3, 1, 1, 0, 10, -1, 2, 0, 0, 0, 2, 0, 1, -10, -12, -9, 3, 0, -12, -9, 0};
        CHECK.due("28: a face apart", hash(due), () -> y.digest());
        y.addDimension(0, 1, -20, 0, 0);
        long[] apart = {3, 2, 1, 0, 10, -1, 2, 0, 0, 1, -20, 0, 0, 1, 0, 0, 2, 1, 0,
            -10, -12, -9, 3, 0, 0};
        CHECK.due("28: not consistent", hash(apart), () -> y.digest());
    }

    private static long hash(long... values) {
        long hash = 1861;
        for (long value : values) {
            hash = 31 * hash + value;
        }
        return hash;
    }
}
