/** The input buffer, and promises 9 to 12. */
final class InputSentences {
    private static final Class<?> ARGUMENT = Check.ARGUMENT;
    private static final Class<?> STATE = Check.STATE;
    private static final int[] FAR = {Integer.MIN_VALUE, Integer.MAX_VALUE};
    /** Lists of exactly 60 characters. */
    private static final String TWELVE_IN_SIXTY =
            "AB=1;BA=2;AB=3;BA=4;AB=5;BA=6;AB=7;BA=8;AB=9;BA=0;AB=11;BA=2";
    private static final String BRACKETS_IN_SIXTY =
            "AB=-99999[-999,+999];BA=99999[-999,-999];AB=12345[+998,+999]";

    private InputSentences() {
    }

    static void tell(Sentences s) {
        s.section("Description");
        s.explains("Input text.");
        s.test("The input buffer has at most 60 characters.", InputSentences::atMostSixty);
        append(s);
        clearInput(s);
        firstError(s);
        load(s);
    }

    private static DimensionChecker sixty() {
        return Drawings.written(2, TWELVE_IN_SIXTY);
    }

    private static void atMostSixty(Check check) {
        DimensionChecker x = Drawings.written(2, TWELVE_IN_SIXTY.substring(0, 59));
        check.due("the 60th", 60, () -> x.append('2'));
        check.refused("a 61st", STATE, x, () -> x.append('2'));
        check.due("all 60 are read", 60, () -> x.firstError());
        check.due("all 60 were kept", 60, () -> x.clearInput());
    }

    // ---- promise 9

    private static void append(Sentences s) {
        s.section("Promise 9");
        s.test("Appends a character to the input buffer.", InputSentences::appends);
        s.test("Returns the new length of the buffer.", InputSentences::newLength);
        s.test("if code is not 32 to 126", InputSentences::wrongCode);
        s.test("if the buffer has 60 characters", InputSentences::fullBuffer);
    }

    private static void appends(Check check) {
        DimensionChecker x = Drawings.faces(2);
        String text = "";
        for (char sign : "BA=-40[-7,+8]".toCharArray()) {
            text += sign;
            x.append(sign);
            check.due("digest with " + text, DigestSentences.byCalls(Drawings.faces(2), text),
                    () -> x.digest());
        }
        x.load();
        check.row("what was written", x, 0, 1, 0, -40, -7, 8);
    }

    private static void newLength(Check check) {
        DimensionChecker x = Drawings.faces(2);
        for (int length = 1; length <= 60; length++) {
            check.due("length", length, () -> x.append('A'));
        }
        x.clearInput();
        check.due("length of an empty one", 1, () -> x.append('A'));
    }

    private static void wrongCode(Check check) {
        for (int code = 32; code <= 126; code++) {
            int right = code;
            check.due("append(" + code + ")", 1, () -> Drawings.faces(2).append(right));
        }
        DimensionChecker x = Drawings.written(2, "AB");
        for (int code : new int[] {31, 127, 0, -1, -65, 10, 128, 255, 'A' + 256, 'A' + 65536,
            FAR[0], FAR[1]}) {
            check.refused("append(" + code + ")", ARGUMENT, x, () -> x.append(code));
        }
    }

    private static void fullBuffer(Check check) {
        DimensionChecker x = sixty();
        check.refused("an allowed one", STATE, x, () -> x.append('1'));
        check.refused("the least code", STATE, x, () -> x.append(32));
        check.refused("the greatest code", STATE, x, () -> x.append(126));
        x.clearInput();
        check.due("cleared", 1, () -> x.append('1'));
    }

    // ---- promise 10

    private static void clearInput(Sentences s) {
        s.section("Promise 10");
        s.test("Clears the input buffer.", InputSentences::clears);
        s.test("Returns the length that it had.", InputSentences::lengthBefore);
    }

    private static void clears(Check check) {
        DimensionChecker x = sixty();
        x.clearInput();
        check.due("firstError", 0, () -> x.firstError());
        check.refused("load", STATE, x, () -> x.load());
        Drawings.write(x, "AB");
        check.due("nothing comes back", 2, () -> x.firstError());
        check.refused("nothing comes back", STATE, x, () -> x.load());
        DimensionChecker y = Drawings.loaded(2, "AB=7");
        Drawings.write(y, "BA=8");
        y.clearInput();
        check.row("the drawing stays", y, 0, 0, 1, 7, 0, 0);
    }

    private static void lengthBefore(Check check) {
        DimensionChecker x = sixty();
        check.due("full", 60, () -> x.clearInput());
        check.due("empty", 0, () -> x.clearInput());
        x.append('A');
        check.due("one", 1, () -> x.clearInput());
        DimensionChecker y = Drawings.loaded(2, "AB=7");
        check.due("loaded", 0, () -> y.clearInput());
    }

    // ---- promise 11

    private static void firstError(Sentences s) {
        s.section("Promise 11");
        s.test("Finds the first syntax error of the buffer.", InputSentences::findsFirst);
        s.test("the index of the first character that is a syntax error",
                InputSentences::indexOfError);
        s.test("the length of the buffer if there is none", InputSentences::noError);
    }

    private static void findsFirst(Check check) {
        check.due("of two in a row", 1, () -> Drawings.written(3, "AAA=1").firstError());
        check.due("of two dimensions", 3, () -> Drawings.written(3, "AB=x;BC=y").firstError());
        check.due("the second one's", 8, () -> Drawings.written(3, "AB=1;BC=y").firstError());
        DimensionChecker x = Drawings.written(3, "AB=1?");
        long before = x.digest();
        check.due("asked once", 4, () -> x.firstError());
        check.due("asked twice", 4, () -> x.firstError());
        check.due("it changes nothing", before, () -> x.digest());
    }

    private static void indexOfError(Check check) {
        check.due("the first character", 0, () -> Drawings.written(2, "=").firstError());
        for (int at = 0; at < 60; at++) {
            int index = at;
            String rest = TWELVE_IN_SIXTY.substring(at + 1);
            String text = TWELVE_IN_SIXTY.substring(0, at) + "~" + rest;
            check.due(text, index, () -> Drawings.written(2, text).firstError());
        }
        for (int at = 0; at < 60; at++) {
            int index = at;
            String text = BRACKETS_IN_SIXTY.substring(0, at) + " ";
            check.due(text, index, () -> Drawings.written(2, text).firstError());
        }
    }

    private static void noError(Check check) {
        check.due("empty", 0, () -> Drawings.faces(2).firstError());
        for (int length = 0; length <= 60; length++) {
            int end = length;
            check.due("length " + length, length,
                    () -> Drawings.written(2, TWELVE_IN_SIXTY.substring(0, end)).firstError());
            check.due("brackets, length " + length, length,
                    () -> Drawings.written(2, BRACKETS_IN_SIXTY.substring(0, end)).firstError());
        }
    }

    // ---- promise 12

    private static void load(Sentences s) {
        s.section("Promise 12");
        s.test("Replaces all dimensions by those in the buffer", InputSentences::replaces);
        s.test("and clears the buffer", InputSentences::loadClears);
        s.test("The faces stay.", InputSentences::facesStay);
        s.test("Returns the number of dimensions.", InputSentences::numberLoaded);
        s.test("if the buffer is not a list", InputSentences::noList);
    }

    private static void replaces(Check check) {
        DimensionChecker x = Drawings.full();
        Drawings.write(x, "BA=-7[-3,-2]");
        check.due("twenty by one", 1, () -> x.load());
        check.row("the one", x, 0, 1, 0, -7, -3, -2);
        check.refused("no second", Check.INDEX, x, () -> x.property(1, 0));
        Drawings.write(x, TWELVE_IN_SIXTY);
        check.due("one by twelve", 12, () -> x.load());
        check.row("the first", x, 0, 0, 1, 1, 0, 0);
        check.row("the last", x, 11, 1, 0, 2, 0, 0);
        check.due("the first is not doubled", false, () -> x.isDoubled(0));
        check.due("the last is doubled", true, () -> x.isDoubled(11));
        Drawings.write(x, BRACKETS_IN_SIXTY);
        check.due("by the ends of the ranges", 3, () -> x.load());
        check.row("the first", x, 0, 0, 1, -99999, -999, 999);
        check.row("the second", x, 1, 1, 0, 99999, -999, -999);
        check.row("the third", x, 2, 0, 1, 12345, 998, 999);
    }

    private static void loadClears(Check check) {
        DimensionChecker x = sixty();
        x.load();
        check.due("firstError", 0, () -> x.firstError());
        check.due("dimensions that stay", 12, () -> x.dimensionCount());
        check.refused("not once more", STATE, x, () -> x.load());
        check.due("clearInput", 0, () -> x.clearInput());
    }

    private static void facesStay(Check check) {
        DimensionChecker x = Drawings.loaded(12, "AB=1");
        check.due("12 faces", 11, () -> x.partOf(11));
        check.refused("not 13", Check.INDEX, x, () -> x.partOf(12));
        check.due("11 parts", 10, () -> x.missing());
        DimensionChecker y = Drawings.loaded(2, "AB=1");
        check.refused("not 3", Check.INDEX, y, () -> y.partOf(2));
    }

    private static void numberLoaded(Check check) {
        String list = "AB=1";
        for (int count = 1; count <= 12; count++) {
            DimensionChecker x = Drawings.written(2, list);
            check.due(list, count, () -> x.load());
            list += ";BA=2";
        }
    }

    private static void noList(Check check) {
        String[] texts = {"", "A", "AB", "AB=", "AB=-", "AB=1;", "AB=1[", "AB=1[-1,+1", "AB=1x",
            "xAB=1", "AB=1[+1,+0]", "AC=1", TWELVE_IN_SIXTY.substring(0, 59) + ";",
            TWELVE_IN_SIXTY.substring(0, 59) + "A"};
        for (String text : texts) {
            DimensionChecker x = Drawings.full();
            Drawings.write(x, text);
            check.refused("\"" + text + "\"", STATE, x, () -> x.load());
            check.due("the dimensions stay", 20, () -> x.dimensionCount());
            check.due("the buffer stays", text.length(), () -> x.clearInput());
        }
    }
}
