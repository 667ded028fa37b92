import java.lang.reflect.Constructor;
import java.lang.reflect.Method;

/** How the input text is read. */
final class ReadingSentences {
    private static final String DIGITS = "0123456789";

    private ReadingSentences() {
    }

    static void tell(Sentences s) {
        s.section("Description");
        list(s);
        dimension(s);
        errors(s);
    }

    private static void list(Sentences s) {
        s.test("A list of dimensions is written as one or more dimensions",
                ReadingSentences::oneOrMore);
        s.test("with a semicolon between two of them", ReadingSentences::semicolonBetween);
        s.test("For example, \"AB=1250[-5,+3];BC=80\" has two dimensions.",
                ReadingSentences::example);
        s.test("A buffer without a syntax error is a list if it ends with a digit of a nominal"
                + " value or with a closing bracket.", ReadingSentences::endOfList);
    }

    private static void dimension(Sentences s) {
        s.test("A dimension is written as two different letters", ReadingSentences::twoLetters);
        s.test("of faces of the drawing", ReadingSentences::lettersOfFaces);
        s.test("an equals sign", ReadingSentences::equalsSign);
        s.test("perhaps a minus sign", ReadingSentences::minusSign);
        s.test("the nominal value with 1 to 5 digits", ReadingSentences::nominalDigits);
        s.test("and perhaps deviations", ReadingSentences::perhapsDeviations);
        s.test("an opening bracket, the lower deviation, a comma, the upper deviation, a closing"
                + " bracket", ReadingSentences::brackets);
        s.test("A deviation is a sign, \"+\" or \"-\"", ReadingSentences::deviationSign);
        s.test("and 1 to 3 digits", ReadingSentences::deviationDigits);
        s.test("Without brackets both deviations are 0.", ReadingSentences::withoutBrackets);
    }

    private static void errors(Sentences s) {
        s.test("The buffer is read from left to right", ReadingSentences::leftToRight);
        s.test("a character that these rules do not allow at its place is a syntax error",
                ReadingSentences::allPlaces);
        s.test("the second letter of a dimension must differ from its first one",
                ReadingSentences::secondLetter);
        s.test("a sixth digit of a nominal value", ReadingSentences::sixthDigit);
        s.test("a fourth digit of a deviation", ReadingSentences::fourthDigit);
        s.test("a semicolon after the 20th dimension is an error",
                ReadingSentences::twentiethSemicolon);
        s.test("A closing bracket is an error if the upper deviation would be less than the lower"
                + " one.", ReadingSentences::crossedBracket);
    }

    // ---- what a text must answer

    private static void error(Check check, int faces, String text, int due) {
        check.due("firstError of " + text, due, () -> Drawings.written(faces, text).firstError());
        DimensionChecker x = Drawings.written(faces, text);
        check.refused("load of " + text, Check.STATE, x, () -> x.load());
    }

    private static void unfinished(Check check, int faces, String text) {
        error(check, faces, text, text.length());
    }

    private static void good(Check check, int faces, String text, int... first) {
        DimensionChecker x = Drawings.written(faces, text);
        check.due("firstError of " + text, text.length(), () -> x.firstError());
        check.due("load of " + text, text.split(";").length, () -> x.load());
        check.row(text, x, 0, first);
    }

    // ---- lists

    private static void oneOrMore(Check check) {
        unfinished(check, 3, "");
        good(check, 3, "AB=1", 0, 1, 1);
        good(check, 3, "AB=1;BC=2", 0, 1, 1);
        good(check, 3, "AB=1;BC=2;CA=3", 0, 1, 1);
        good(check, 2, "AB=1;AB=1;AB=1;AB=1;AB=1;AB=1;AB=1;AB=1;AB=1;AB=1;AB=1;AB=1", 0, 1, 1);
    }

    private static void semicolonBetween(Check check) {
        error(check, 3, "AB=1BC=2", 4);
        error(check, 3, "AB=1[-1,+1]BC=2", 11);
        error(check, 3, "AB=1,BC=2", 4);
        error(check, 3, "AB=1 ;BC=2", 4);
        error(check, 3, "AB=1; BC=2", 5);
        error(check, 3, ";AB=1", 0);
        error(check, 3, "AB=1;;BC=2", 5);
        unfinished(check, 3, "AB=1;");
        unfinished(check, 3, "AB=1[-1,+1];");
        good(check, 3, "AB=1[-1,+1];BC=2", 0, 1, 1, -1, 1);
    }

    private static void example(Check check) {
        DimensionChecker x = Drawings.loaded(3, "AB=1250[-5,+3];BC=80");
        check.due("how many", 2, () -> x.dimensionCount());
        check.row("the first", x, 0, 0, 1, 1250, -5, 3);
        check.row("the second", x, 1, 1, 2, 80, 0, 0);
    }

    private static void endOfList(Check check) {
        String text = "AB=-120[-45,+45];CB=7[+1,+1];AC=12345";
        for (int end = 0; end <= text.length(); end++) {
            String begun = text.substring(0, end);
            DimensionChecker x = Drawings.written(3, begun);
            check.due("firstError of " + begun, end, () -> x.firstError());
            if (begun.matches(".*(=-?[0-9]+|\\])")) {
                check.due("load of " + begun, begun.split(";").length, () -> x.load());
            } else {
                check.refused("load of " + begun, Check.STATE, x, () -> x.load());
            }
        }
    }

    // ---- dimensions

    private static void twoLetters(Check check) {
        error(check, 3, "=1", 0);
        error(check, 3, "A=1", 1);
        error(check, 3, "ABC=1", 2);
        error(check, 3, "1A=1", 0);
        unfinished(check, 3, "A");
        unfinished(check, 3, "AB");
        for (int a = 0; a < 12; a++) {
            for (int b = 0; b < 12; b++) {
                String text = "" + (char) ('A' + a) + (char) ('A' + b) + "=1";
                if (a == b) {
                    error(check, 12, text, 1);
                } else {
                    good(check, 12, text, a, b, 1, 0, 0);
                }
            }
        }
    }

    private static void lettersOfFaces(Check check) {
        for (int n = 2; n <= 12; n++) {
            char last = (char) ('A' + n - 1);
            char behind = (char) ('A' + n);
            good(check, n, "A" + last + "=1", 0, n - 1);
            good(check, n, last + "A=1", n - 1, 0);
            error(check, n, "A" + behind + "=1", 1);
            error(check, n, behind + "A=1", 0);
        }
        error(check, 3, "@A=1", 0);
        error(check, 3, "A@=1", 1);
        error(check, 3, "aB=1", 0);
        error(check, 3, "Ab=1", 1);
        DimensionChecker x = Drawings.written(12, "AL=1");
        x.setFaces(11);
        check.due("the faces of now count", 1, () -> x.firstError());
        x.setFaces(12);
        check.due("the faces of now count", 4, () -> x.firstError());
    }

    private static void equalsSign(Check check) {
        error(check, 3, "AB1", 2);
        error(check, 3, "AB-1", 2);
        error(check, 3, "AB:1", 2);
        error(check, 3, "AB==1", 3);
        unfinished(check, 3, "AB=");
        good(check, 3, "AB=1", 0, 1, 1);
    }

    private static void minusSign(Check check) {
        good(check, 3, "AB=5", 0, 1, 5);
        good(check, 3, "AB=-5", 0, 1, -5);
        good(check, 3, "AB=-0", 0, 1, 0);
        good(check, 3, "AB=-99999", 0, 1, -99999);
        good(check, 3, "BC=5;AB=-5", 1, 2, 5);
        good(check, 3, "BC=-5;AB=5", 1, 2, -5);
        error(check, 3, "AB=+5", 3);
        error(check, 3, "AB=--5", 4);
        error(check, 3, "AB=5-", 4);
        unfinished(check, 3, "AB=-");
    }

    private static void nominalDigits(Check check) {
        error(check, 3, "AB=;BC=1", 3);
        error(check, 3, "AB=[-1,+1]", 3);
        error(check, 3, "AB=-;BC=1", 4);
        error(check, 3, "AB=-[-1,+1]", 4);
        good(check, 3, "AB=0", 0, 1, 0);
        good(check, 3, "AB=9", 0, 1, 9);
        good(check, 3, "AB=99999", 0, 1, 99999);
        good(check, 3, "AB=00000", 0, 1, 0);
        good(check, 3, "AB=00012", 0, 1, 12);
        good(check, 3, "AB=10203", 0, 1, 10203);
        error(check, 3, "AB=999999", 8);
        error(check, 3, "AB=1/", 4);
        error(check, 3, "AB=1:", 4);
        error(check, 3, "AB=1.5", 4);
    }

    private static void perhapsDeviations(Check check) {
        good(check, 3, "AB=12", 0, 1, 12, 0, 0);
        good(check, 3, "AB=12[-1,+2]", 0, 1, 12, -1, 2);
        good(check, 3, "AB=12345[-1,+2]", 0, 1, 12345, -1, 2);
        error(check, 3, "AB=12[]", 6);
        error(check, 3, "AB=12[-1,+2][-1,+2]", 12);
        error(check, 3, "AB=12(-1,+2)", 5);
        error(check, 3, "AB=12-1,+2]", 5);
    }

    private static void brackets(Check check) {
        good(check, 3, "AB=1[-12,+34]", 0, 1, 1, -12, 34);
        error(check, 3, "AB=1]", 4);
        error(check, 3, "AB=1[,+3]", 5);
        error(check, 3, "AB=1[-2]", 7);
        error(check, 3, "AB=1[-2;", 7);
        error(check, 3, "AB=1[-2+3]", 7);
        error(check, 3, "AB=1[-2,]", 8);
        error(check, 3, "AB=1[-2,+3,", 10);
        error(check, 3, "AB=1[-2,+3;", 10);
        error(check, 3, "AB=1[-2,+3)", 10);
        error(check, 3, "AB=1[-2,+3]]", 11);
        for (String text : new String[] {"AB=1[", "AB=1[-", "AB=1[-2", "AB=1[-2,", "AB=1[-2,+",
            "AB=1[-2,+3"}) {
            unfinished(check, 3, text);
        }
    }

    private static void deviationSign(Check check) {
        good(check, 3, "AB=1[+2,+3]", 0, 1, 1, 2, 3);
        good(check, 3, "AB=1[-3,-2]", 0, 1, 1, -3, -2);
        good(check, 3, "AB=1[-2,+3]", 0, 1, 1, -2, 3);
        good(check, 3, "AB=1[+0,-0]", 0, 1, 1, 0, 0);
        error(check, 3, "AB=1[0,+3]", 5);
        error(check, 3, "AB=1[-2,3]", 8);
        error(check, 3, "AB=1[+-2,+3]", 6);
        error(check, 3, "AB=1[-2,++3]", 9);
        error(check, 3, "AB=1[*2,+3]", 5);
        error(check, 3, "AB=1[-2,/3]", 8);
    }

    private static void deviationDigits(Check check) {
        error(check, 3, "AB=1[-,+3]", 6);
        error(check, 3, "AB=1[-2,+]", 9);
        good(check, 3, "AB=1[-2,+3]", 0, 1, 1, -2, 3);
        good(check, 3, "AB=1[-999,+999]", 0, 1, 1, -999, 999);
        good(check, 3, "AB=1[-000,+001]", 0, 1, 1, 0, 1);
        good(check, 3, "AB=1[+998,+999]", 0, 1, 1, 998, 999);
        good(check, 3, "AB=1[-120,-102]", 0, 1, 1, -120, -102);
    }

    private static void withoutBrackets(Check check) {
        DimensionChecker x = Drawings.loaded(3, "AB=1[-7,+8];BC=2;CA=-3[+4,+5];AB=4");
        check.row("between two with brackets", x, 1, 1, 2, 2, 0, 0);
        check.row("the last", x, 3, 0, 1, 4, 0, 0);
        Drawings.write(x, "AB=1");
        x.load();
        check.row("where brackets were before", x, 0, 0, 1, 1, 0, 0);
    }

    // ---- errors

    private static void leftToRight(Check check) {
        error(check, 3, "AB=1[+3,+2];BB=1", 10);
        error(check, 3, "AB=1;BB=1[+3,+2]", 6);
        error(check, 3, "?AA=123456", 0);
    }

    /** Each place of a dimension with all characters that may stand there; others are errors. */
    private static void allPlaces(Check check) {
        String[][] places = {
            {"", "ABC"}, {"A", "BC"}, {"B", "AC"}, {"C", "AB"}, {"AB", "="},
            {"AB=", "-" + DIGITS}, {"AB=-", DIGITS}, {"AB=1", DIGITS + "[;"},
            {"AB=-1", DIGITS + "[;"}, {"AB=1234", DIGITS + "[;"}, {"AB=12345", "[;"},
            {"AB=-12345", "[;"}, {"AB=1[", "+-"}, {"AB=1[+", DIGITS}, {"AB=1[-", DIGITS},
            {"AB=1[-1", DIGITS + ","}, {"AB=1[-12", DIGITS + ","}, {"AB=1[-123", ","},
            {"AB=1[-1,", "+-"}, {"AB=1[-1,+", DIGITS}, {"AB=1[-1,-", DIGITS},
            {"AB=1[-1,+1", DIGITS + "]"}, {"AB=1[-1,+12", DIGITS + "]"}, {"AB=1[-1,+123", "]"},
            {"AB=1[+2,+1", DIGITS}, {"AB=1[+2,-1", DIGITS}, {"AB=1[+200,+199", ""},
            {"AB=1[-1,+1]", ";"}, {"AB=1;", "ABC"}, {"AB=1[-1,+1];", "ABC"}, {"AB=1;C", "AB"},
        };
        for (String[] place : places) {
            for (char sign = 32; sign <= 126; sign++) {
                String text = place[0] + sign;
                int due = place[1].indexOf(sign) >= 0 ? text.length() : text.length() - 1;
                check.due("firstError of " + text, due,
                        () -> Drawings.written(3, text).firstError());
            }
        }
    }

    private static void secondLetter(Check check) {
        for (char letter = 'A'; letter <= 'L'; letter++) {
            error(check, 12, "" + letter + letter, 1);
            error(check, 12, "AB=1;" + letter + letter + "=1", 6);
        }
        good(check, 3, "AB=1;BA=1", 0, 1, 1);
        good(check, 3, "AB=1;AC=1", 0, 1, 1);
    }

    private static void sixthDigit(Check check) {
        error(check, 3, "AB=123456", 8);
        error(check, 3, "AB=-123456", 9);
        error(check, 3, "AB=000000", 8);
        error(check, 3, "AB=-000000", 9);
        error(check, 3, "BC=1;AB=123456", 13);
        good(check, 3, "AB=12345", 0, 1, 12345);
        good(check, 3, "AB=12345;BC=12345", 0, 1, 12345);
    }

    private static void fourthDigit(Check check) {
        error(check, 3, "AB=1[-1234", 9);
        error(check, 3, "AB=1[+0000", 9);
        error(check, 3, "AB=1[-1,+1234", 12);
        error(check, 3, "AB=1[-1,+0000", 12);
        error(check, 3, "AB=1[-123,+1234", 14);
        good(check, 3, "AB=1[-123,+123]", 0, 1, 1, -123, 123);
    }

    /**
     * Sixty characters hold 12 dimensions at most, so no call can come so far; the reader inside
     * the class is asked itself.
     */
    private static void twentiethSemicolon(Check check) {
        String twenty = "AB=1" + ";AB=1".repeat(19);
        String bracketed = "AB=1[-1,+1]" + ";AB=1[-1,+1]".repeat(19);
        check.due("20", twenty.length(), () -> readInside(twenty));
        check.due("20 in brackets", bracketed.length(), () -> readInside(bracketed));
        check.due("19 and a semicolon", twenty.length() - 4,
                () -> readInside(twenty.substring(0, twenty.length() - 4)));
        check.due("20 and a semicolon", twenty.length(), () -> readInside(twenty + ";"));
        check.due("20 in brackets and a semicolon", bracketed.length(),
                () -> readInside(bracketed + ";"));
        check.due("21", twenty.length(), () -> readInside(twenty + ";AB=1"));
    }

    private static int readInside(String text) {
        try {
            Class<?> kind = Class.forName("DimensionChecker$ListReader");
            Constructor<?> constructor = kind.getDeclaredConstructor();
            constructor.setAccessible(true);
            Method read = kind.getDeclaredMethod("read", int[].class, int.class, int.class);
            read.setAccessible(true);
            int[] codes = text.chars().toArray();
            return (int) read.invoke(constructor.newInstance(), codes, codes.length, 2);
        } catch (ReflectiveOperationException e) {
            throw new IllegalStateException("the reader can't be asked", e);
        }
    }

    private static void crossedBracket(Check check) {
        error(check, 3, "AB=1[+1,+0]", 10);
        error(check, 3, "AB=1[+0,-1]", 10);
        error(check, 3, "AB=1[-1,-2]", 10);
        error(check, 3, "AB=1[+999,+998]", 14);
        error(check, 3, "AB=1[-998,-999]", 14);
        error(check, 3, "AB=1[+999,-999]", 14);
        error(check, 3, "AB=1[-1,+1];BC=1[+2,+1]", 22);
        good(check, 3, "AB=1[+1,+1]", 0, 1, 1, 1, 1);
        good(check, 3, "AB=1[-1,-1]", 0, 1, 1, -1, -1);
        good(check, 3, "AB=1[+0,-0]", 0, 1, 1, 0, 0);
        good(check, 3, "AB=1[+5,+10]", 0, 1, 1, 5, 10);
        unfinished(check, 3, "AB=1[+1,+0");
    }
}
