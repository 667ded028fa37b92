import java.math.BigInteger;

/** Promise 28. */
final class DigestSentences {
    private DigestSentences() {
    }

    static void tell(Sentences s) {
        s.section("Promise 28");
        s.test("Computes a hash of the whole state.", DigestSentences::wholeState);
        s.test("The hash starts as 1861; each value x replaces the hash by 31 * hash + x",
                DigestSentences::startsAs);
        s.test("in long arithmetic with overflow", DigestSentences::overflows);
        s.test("the number of faces", DigestSentences::numberOfFaces);
        s.test("the number of dimensions, and for each dimension its properties 0 to 4",
                DigestSentences::properties);
        s.test("and 1 if it is doubled, else 0", DigestSentences::doubled);
        s.test("for each face its part", DigestSentences::parts);
        s.test("contradictions; 1 if the drawing is consistent, else 0",
                DigestSentences::agreement);
        s.test("for each face b from 1 on, if it is connected with face 0",
                DigestSentences::connected);
        s.test("gap(0, b, 0), gap(0, b, 1), gap(0, b, 2), spread(0, b), contributor(0, b)",
                DigestSentences::gaps);
        s.test("if the drawing is consistent, its tight limits from face 0, the lower one first",
                DigestSentences::tightLimits);
        s.test("the length of the input buffer and each of its character codes",
                DigestSentences::buffer);
        s.explains("Returns the hash.");
    }

    private static long hash(long... values) {
        long hash = 1861;
        for (long value : values) {
            hash = 31 * hash + value;
        }
        return hash;
    }

    private static void due(Check check, String about, DimensionChecker x, long... values) {
        check.due(about, hash(values), () -> x.digest());
    }

    /** The hash of a drawing with this buffer, by the other calls of the object. */
    static long byCalls(DimensionChecker x, String text) {
        int faces = faces(x);
        int count = x.dimensionCount();
        long hash = mix(hash(faces), count);
        for (int d = 0; d < count; d++) {
            for (int what = 0; what <= 4; what++) {
                hash = mix(hash, x.property(d, what));
            }
            hash = mix(hash, x.isDoubled(d) ? 1 : 0);
        }
        for (int face = 0; face < faces; face++) {
            hash = mix(hash, x.partOf(face));
        }
        hash = mix(hash, x.contradictions(), x.isConsistent() ? 1 : 0);
        for (int face = 1; face < faces; face++) {
            hash = x.partOf(face) == 0 ? mixFace(hash, x, face) : hash;
        }
        hash = mix(hash, text.length());
        for (char sign : text.toCharArray()) {
            hash = mix(hash, sign);
        }
        return hash;
    }

    private static long mixFace(long start, DimensionChecker x, int b) {
        long hash = mix(start, x.gap(0, b, 0), x.gap(0, b, 1), x.gap(0, b, 2), x.spread(0, b),
                x.contributor(0, b));
        return x.isConsistent() ? mix(hash, x.tight(0, b, false), x.tight(0, b, true)) : hash;
    }

    private static long mix(long start, long... values) {
        long hash = start;
        for (long value : values) {
            hash = 31 * hash + value;
        }
        return hash;
    }

    private static int faces(DimensionChecker x) {
        int faces = 2;
        while (faces < 12 && isFace(x, faces)) {
            faces++;
        }
        return faces;
    }

    private static boolean isFace(DimensionChecker x, int face) {
        return Check.answer(() -> x.partOf(face)) instanceof Integer;
    }

    // ---- one after the other

    private static void wholeState(Check check) {
        DimensionChecker[] drawings = {new DimensionChecker(), Drawings.faces(12),
            Drawings.full(), Drawings.path(12, 99999, -999, 999),
            Drawings.path(12, -99999, -999, -999),
            Drawings.loaded(6, "FE=1;DC=1[-2,+3];EC=1;FC=4[-9,+9];BA=2[-1,+0]")};
        for (DimensionChecker x : drawings) {
            long empty = byCalls(x, "");
            check.due("by the other calls", empty, () -> x.digest());
            check.due("once more", empty, () -> x.digest());
            Drawings.write(x, "AB=~ ");
            check.due("with a buffer", byCalls(x, "AB=~ "), () -> x.digest());
        }
        check.due("12 faces and 20 dimensions", byCalls(Drawings.fullPath(), ""),
                () -> Drawings.fullPath().digest());
    }

    private static void startsAs(Check check) {
        // faces 2, dimensions 0, parts 0 and 1, contradictions 0, consistent 1, length 0
        due(check, "a new object", new DimensionChecker(), 2, 0, 0, 1, 0, 1, 0);
        check.compare("by hand", 1861L * 31 + 2, hash(2));
    }

    private static void overflows(Check check) {
        BigInteger exact = BigInteger.valueOf(hash(2, 0, 0, 1, 0, 1, 60));
        for (int i = 0; i < 60; i++) {
            exact = exact.multiply(BigInteger.valueOf(31)).add(BigInteger.valueOf('~'));
        }
        long lowBits = exact.longValue();
        check.compare("more than a long holds", true, exact.bitLength() > 63);
        check.due("60 characters", lowBits, () -> Drawings.written(2, "~".repeat(60)).digest());
        DimensionChecker x = Drawings.full();
        check.due("20 dimensions", byCalls(x, ""), () -> x.digest());
    }

    private static void numberOfFaces(Check check) {
        due(check, "two", Drawings.faces(2), 2, 0, 0, 1, 0, 1, 0);
        due(check, "three", Drawings.faces(3), 3, 0, 0, 1, 2, 0, 1, 0);
        due(check, "twelve", Drawings.faces(12),
                12, 0, 0, 1, 2, 3, 4, 5, 6, 7, 8, 9, 10, 11, 0, 1, 0);
    }

    private static void properties(Check check) {
        // Faces B and C are joined, so no gap from face 0 comes in.
        due(check, "one", Drawings.loaded(3, "CB=-99999[-999,+999]"),
                3, 1, 2, 1, -99999, -999, 999, 0, 0, 1, 1, 0, 1, 0);
        due(check, "two", Drawings.loaded(4, "BC=5;CD=6[-7,-1]"),
                4, 2, 1, 2, 5, 0, 0, 0, 2, 3, 6, -7, -1, 0, 0, 1, 1, 1, 0, 1, 0);
    }

    private static void doubled(Check check) {
        due(check, "the second", Drawings.loaded(3, "BC=5;CB=-5"),
                3, 2, 1, 2, 5, 0, 0, 0, 2, 1, -5, 0, 0, 1, 0, 1, 1, 0, 1, 0);
    }

    private static void parts(Check check) {
        due(check, "three alone", Drawings.faces(3), 3, 0, 0, 1, 2, 0, 1, 0);
        due(check, "two and two", Drawings.loaded(5, "EC=5;BD=6"),
                5, 2, 4, 2, 5, 0, 0, 0, 1, 3, 6, 0, 0, 0, 0, 1, 2, 1, 2, 0, 1, 0);
    }

    private static void agreement(Check check) {
        due(check, "no contradiction", Drawings.loaded(3, "BC=5[-1,+1];BC=6"),
                3, 2, 1, 2, 5, -1, 1, 0, 1, 2, 6, 0, 0, 1, 0, 1, 1, 0, 1, 0);
        due(check, "one", Drawings.loaded(3, "BC=5[-1,+1];BC=7"),
                3, 2, 1, 2, 5, -1, 1, 0, 1, 2, 7, 0, 0, 1, 0, 1, 1, 1, 0, 0);
        due(check, "none, but not consistent", Drawings.loaded(3, "BC=5[-1,+1];BC=6;BC=4"),
                3, 3, 1, 2, 5, -1, 1, 0, 1, 2, 6, 0, 0, 1, 1, 2, 4, 0, 0, 1, 0, 1, 1, 0, 0, 0);
    }

    private static void connected(Check check) {
        due(check, "the last alone", Drawings.loaded(3, "BA=10[-1,+2]"),
                3, 1, 1, 0, 10, -1, 2, 0, 0, 0, 2, 0, 1, -10, -12, -9, 3, 0, -12, -9, 0);
        due(check, "the middle one alone", Drawings.loaded(3, "AC=10[-1,+2]"),
                3, 1, 0, 2, 10, -1, 2, 0, 0, 1, 0, 0, 1, 10, 9, 12, 3, 0, 9, 12, 0);
        due(check, "face 0 alone", Drawings.loaded(3, "BC=10[-1,+2]"),
                3, 1, 1, 2, 10, -1, 2, 0, 0, 1, 1, 0, 1, 0);
    }

    private static void gaps(Check check) {
        due(check, "two faces", Drawings.loaded(3, "AB=10[-1,+2];CB=4[-4,+0]"),
                3, 2, 0, 1, 10, -1, 2, 0, 2, 1, 4, -4, 0, 0, 0, 0, 0, 0, 1,
                10, 9, 12, 3, 0, 9, 12, 6, 5, 12, 5, 1, 5, 12, 0);
    }

    private static void tightLimits(Check check) {
        due(check, "narrower than the gap", Drawings.loaded(2, "AB=10[-3,+4];AB=12[-1,+0]"),
                2, 2, 0, 1, 10, -3, 4, 0, 0, 1, 12, -1, 0, 1, 0, 0, 0, 1,
                10, 7, 14, 7, 0, 11, 12, 0);
        due(check, "not consistent", Drawings.loaded(2, "AB=10[-3,+4];AB=16[-1,+0]"),
                2, 2, 0, 1, 10, -3, 4, 0, 0, 1, 16, -1, 0, 1, 0, 0, 1, 0,
                10, 7, 14, 7, 0, 0);
        due(check, "not consistent elsewhere", Drawings.loaded(4, "AB=10[-3,+4];CD=1;CD=2"),
                4, 3, 0, 1, 10, -3, 4, 0, 2, 3, 1, 0, 0, 0, 2, 3, 2, 0, 0, 1, 0, 0, 2, 2, 1, 0,
                10, 7, 14, 7, 0, 0);
    }

    private static void buffer(Check check) {
        due(check, "empty", new DimensionChecker(), 2, 0, 0, 1, 0, 1, 0);
        due(check, "the least code", Drawings.written(2, " "), 2, 0, 0, 1, 0, 1, 1, 32);
        due(check, "the greatest code", Drawings.written(2, "A~"), 2, 0, 0, 1, 0, 1, 2, 65, 126);
        DimensionChecker full = Drawings.written(2, "AB".repeat(30));
        check.due("full", byCalls(new DimensionChecker(), "AB".repeat(30)), () -> full.digest());
        full.clearInput();
        due(check, "cleared", full, 2, 0, 0, 1, 0, 1, 0);
    }
}
