import java.util.List;

/** What the document says about exceptions, for each call and each cause. */
final class ExceptionSentences {
    private static final Class<?> INDEX = Check.INDEX;
    private static final Class<?> ARGUMENT = Check.ARGUMENT;
    private static final Class<?> STATE = Check.STATE;
    private static final String SIXTY = "AB=1[-1,+2];BC=2;".repeat(4).substring(0, 60);

    /** Makes the same object each time. */
    private interface Maker {
        DimensionChecker make();
    }

    private interface Asked {
        Object run(DimensionChecker x);
    }

    private ExceptionSentences() {
    }

    static void tell(Sentences s) {
        s.section("Description");
        s.explains("Exceptions.");
        s.test("A call that throws an exception changes nothing.",
                ExceptionSentences::changesNothing);
        s.test("If several exceptions apply, the one that is named first in the throws clause is"
                + " thrown.", ExceptionSentences::namedFirst);
        // The examples themselves stand in ExamplesTest.
        s.explains("Examples: Each of them begins with a new object");
        s.explains("Three faces, and a dimension too many");
        s.explains("General tolerances: append(65) = 1");
        s.explains("A bracket that cannot be closed");
        s.explains("A dimension is transferred, and a width is shared");
        s.explains("The constants:");
        s.test("`NONE = -1`: There is no such number.",
                check -> check.compare("NONE", -1, DimensionChecker.NONE));
        s.explains("The constructor and the methods follow, a promise each");
    }

    // ---- drawings in which much is refused

    /** A, B and C in a consistent ring, D alone, and an error in the buffer. */
    private static DimensionChecker ring() {
        DimensionChecker x = Drawings.loaded(4, "AB=10[-2,+2];BC=20[-1,+2];AC=30;CA=-30[-8,+8]");
        Drawings.write(x, "AB=1[+2,+1]");
        return x;
    }

    /** The same faces, but the ring can't close; the buffer is not at its end. */
    private static DimensionChecker openRing() {
        DimensionChecker x = Drawings.loaded(4, "AB=10[-2,+2];BC=20[-1,+2];AC=90");
        Drawings.write(x, "AB=1;");
        return x;
    }

    /** Twenty dimensions and sixty characters. */
    private static DimensionChecker allFull() {
        DimensionChecker x = Drawings.full();
        Drawings.write(x, SIXTY);
        return x;
    }

    /** Transfer and distribute come to the ends of all ranges here. */
    private static DimensionChecker edges() {
        DimensionChecker x = Drawings.faces(4);
        x.addDimension(0, 1, 60000, -1, 1);
        x.addDimension(1, 2, 60000, 997, 999);
        x.addDimension(0, 3, 5, 999, 999);
        return x;
    }

    // ---- a call that throws an exception changes nothing

    private static void changesNothing(Check check) {
        drawingCalls(check);
        inputCalls(check);
        questions(check);
        transfers(check);
        distributions(check);
    }

    private static void nothing(Check check, Class<?> want, Maker maker, String call, Asked asked) {
        DimensionChecker x = maker.make();
        DimensionChecker twin = maker.make();
        int faces = Check.answer(() -> twin.partOf(3)) instanceof Integer ? 4 : 2;
        x.digest();
        check.due(call, Check.thrown(want), () -> asked.run(x));
        List<Object> due = Snapshot.of(twin, faces);
        List<Object> got = Snapshot.of(x, faces);
        check.compare(call + ", number of answers behind it", due.size(), got.size());
        for (int i = 0; i < due.size() && i < got.size(); i++) {
            check.compare(call + ", answer " + i + " behind it", due.get(i), got.get(i));
        }
    }

    private static void drawingCalls(Check check) {
        Maker ring = ExceptionSentences::ring;
        nothing(check, ARGUMENT, ring, "setFaces(1)", x -> x.setFaces(1));
        nothing(check, ARGUMENT, ring, "setFaces(13)", x -> x.setFaces(13));
        nothing(check, INDEX, ring, "from none", x -> x.addDimension(-1, 0, 1, 0, 0));
        nothing(check, INDEX, ring, "to none", x -> x.addDimension(0, 4, 1, 0, 0));
        nothing(check, ARGUMENT, ring, "same face", x -> x.addDimension(3, 3, 1, 0, 0));
        nothing(check, ARGUMENT, ring, "nominal", x -> x.addDimension(0, 3, 100000, 0, 0));
        nothing(check, ARGUMENT, ring, "lower", x -> x.addDimension(0, 3, 1, -1000, 0));
        nothing(check, ARGUMENT, ring, "upper", x -> x.addDimension(0, 3, 1, 0, 1000));
        nothing(check, ARGUMENT, ring, "crossed", x -> x.addDimension(0, 3, 1, 1, 0));
        nothing(check, STATE, ExceptionSentences::allFull, "a 21st",
                x -> x.addDimension(0, 1, 1, 0, 0));
        nothing(check, INDEX, ring, "removeDimension(-1)", x -> x.removeDimension(-1));
        nothing(check, INDEX, ring, "removeDimension(4)", x -> x.removeDimension(4));
        nothing(check, INDEX, ring, "deviations of -1", x -> x.setDeviations(-1, 1, 2));
        nothing(check, INDEX, ring, "deviations of 4", x -> x.setDeviations(4, 1, 2));
        nothing(check, ARGUMENT, ring, "lower set", x -> x.setDeviations(0, -1000, 2));
        nothing(check, ARGUMENT, ring, "upper set", x -> x.setDeviations(0, 1, 1000));
        nothing(check, ARGUMENT, ring, "crossed set", x -> x.setDeviations(0, 2, 1));
        nothing(check, ARGUMENT, ring, "general", x -> x.general('x'));
        nothing(check, INDEX, ring, "property of 4", x -> x.property(4, 0));
        nothing(check, ARGUMENT, ring, "property 5", x -> x.property(0, 5));
    }

    private static void inputCalls(Check check) {
        Maker full = ExceptionSentences::allFull;
        nothing(check, ARGUMENT, ExceptionSentences::ring, "append(31)", x -> x.append(31));
        nothing(check, ARGUMENT, ExceptionSentences::ring, "append(127)", x -> x.append(127));
        nothing(check, STATE, full, "a 61st character", x -> x.append('A'));
        nothing(check, STATE, full, "load of a full buffer", x -> x.load());
        nothing(check, STATE, ExceptionSentences::ring, "load of an error", x -> x.load());
        nothing(check, STATE, ExceptionSentences::openRing, "load, unfinished", x -> x.load());
        nothing(check, STATE, ExceptionSentences::edges, "load of nothing", x -> x.load());
    }

    private static void questions(Check check) {
        Maker ring = ExceptionSentences::ring;
        nothing(check, INDEX, ring, "isDoubled(4)", x -> x.isDoubled(4));
        nothing(check, INDEX, ring, "partOf(4)", x -> x.partOf(4));
        nothing(check, INDEX, ring, "chainLength", x -> x.chainLength(0, 4));
        nothing(check, INDEX, ring, "chainDimension of a face", x -> x.chainDimension(4, 0, 0));
        nothing(check, INDEX, ring, "chainDimension of no chain", x -> x.chainDimension(0, 3, 0));
        nothing(check, INDEX, ring, "chainDimension of an index", x -> x.chainDimension(0, 2, 2));
        nothing(check, INDEX, ring, "gap of a face", x -> x.gap(0, 4, 0));
        nothing(check, ARGUMENT, ring, "gap of no kind", x -> x.gap(0, 1, 3));
        nothing(check, STATE, ring, "gap of no chain", x -> x.gap(0, 3, 0));
        nothing(check, INDEX, ring, "spread of a face", x -> x.spread(0, 4));
        nothing(check, STATE, ring, "spread of no chain", x -> x.spread(0, 3));
        nothing(check, INDEX, ring, "contributor of a face", x -> x.contributor(4, 0));
        nothing(check, STATE, ring, "contributor of no chain", x -> x.contributor(3, 0));
        nothing(check, INDEX, ring, "part of a face", x -> x.part(4, 0, 0));
        nothing(check, INDEX, ring, "part of a dimension", x -> x.part(0, 1, 4));
        nothing(check, STATE, ring, "part of no chain", x -> x.part(0, 3, 0));
        nothing(check, INDEX, ring, "misfit(4)", x -> x.misfit(4));
        nothing(check, STATE, ring, "misfit(0)", x -> x.misfit(0));
        nothing(check, INDEX, ring, "tight of a face", x -> x.tight(0, 4, true));
        nothing(check, STATE, ring, "tight of no chain", x -> x.tight(0, 3, true));
        nothing(check, STATE, ExceptionSentences::openRing, "tight, not consistent",
                x -> x.tight(0, 1, true));
    }

    private static void transfers(Check check) {
        Maker ring = ExceptionSentences::ring;
        Maker edges = ExceptionSentences::edges;
        nothing(check, INDEX, ring, "transfer of 4", x -> x.transfer(4, 0));
        nothing(check, INDEX, ring, "transfer to 4", x -> x.transfer(0, 4));
        nothing(check, ARGUMENT, ring, "transfer to its first face", x -> x.transfer(1, 1));
        nothing(check, ARGUMENT, ring, "transfer to its second face", x -> x.transfer(1, 2));
        nothing(check, STATE, ring, "transfer of a doubled one", x -> x.transfer(2, 1));
        nothing(check, STATE, ring, "transfer without a chain", x -> x.transfer(1, 3));
        nothing(check, STATE, ring, "transfer along itself", x -> x.transfer(0, 2));
        nothing(check, STATE, ring, "transfer, crossed", x -> x.transfer(1, 0));
        nothing(check, STATE, edges, "transfer, nominal", x -> x.transfer(1, 0));
        nothing(check, STATE, edges, "transfer, deviation", x -> x.transfer(0, 3));
    }

    private static void distributions(Check check) {
        Maker ring = ExceptionSentences::ring;
        nothing(check, INDEX, ring, "distribute from 4", x -> x.distribute(4, 0, 5));
        nothing(check, INDEX, ring, "distribute to 4", x -> x.distribute(0, 4, 5));
        nothing(check, ARGUMENT, ring, "distribute -1", x -> x.distribute(0, 1, -1));
        nothing(check, ARGUMENT, ring, "distribute 1999", x -> x.distribute(0, 1, 1999));
        nothing(check, STATE, ring, "distribute without a chain", x -> x.distribute(0, 3, 5));
        nothing(check, STATE, ring, "distribute over nothing", x -> x.distribute(0, 0, 5));
        // The first dimension's new width would fit, the second one's would not.
        nothing(check, STATE, ExceptionSentences::edges, "distribute out of range",
                x -> x.distribute(0, 2, 8));
        nothing(check, STATE, ExceptionSentences::edges, "distribute over a width of 0",
                x -> x.distribute(0, 3, 8));
    }

    // ---- the one that is named first is thrown

    private static void namedFirst(Check check) {
        addedFirst(check);
        askedFirst(check);
        changedFirst(check);
    }

    private static void addedFirst(Check check) {
        DimensionChecker x = Drawings.full();
        check.refused("index, argument, state: the same face", INDEX, x,
                () -> x.addDimension(2, 2, 1, 0, 0));
        check.refused("index, argument, state: nominal", INDEX, x,
                () -> x.addDimension(0, 2, 100000, 0, 0));
        check.refused("index, argument, state: crossed", INDEX, x,
                () -> x.addDimension(-1, 0, 1, 1, 0));
        check.refused("index, state", INDEX, x, () -> x.addDimension(0, 2, 1, 0, 0));
        check.refused("argument, state: same face", ARGUMENT, x,
                () -> x.addDimension(1, 1, 1, 0, 0));
        check.refused("argument, state: nominal", ARGUMENT, x,
                () -> x.addDimension(0, 1, -100000, 0, 0));
        check.refused("argument, state: lower", ARGUMENT, x,
                () -> x.addDimension(0, 1, 1, -1000, 0));
        check.refused("argument, state: upper", ARGUMENT, x,
                () -> x.addDimension(0, 1, 1, 0, 1000));
        check.refused("argument, state: crossed", ARGUMENT, x,
                () -> x.addDimension(0, 1, 1, 1, 0));
        check.refused("setDeviations", INDEX, x, () -> x.setDeviations(20, 1, 0));
        check.refused("setDeviations, far", INDEX, x, () -> x.setDeviations(-1, -1000, 1000));
        check.refused("property", INDEX, x, () -> x.property(20, 5));
        check.refused("property below", INDEX, x, () -> x.property(-1, -1));
        DimensionChecker y = allFull();
        check.refused("append(31)", ARGUMENT, y, () -> y.append(31));
        check.refused("append(127)", ARGUMENT, y, () -> y.append(127));
    }

    private static void askedFirst(Check check) {
        DimensionChecker x = openRing();
        check.refused("gap: index, argument, state", INDEX, x, () -> x.gap(3, 4, 3));
        check.refused("gap: index, argument", INDEX, x, () -> x.gap(-1, 0, -1));
        check.refused("gap: argument, state", ARGUMENT, x, () -> x.gap(0, 3, 3));
        check.refused("gap: argument, state, backward", ARGUMENT, x, () -> x.gap(3, 0, -1));
        check.refused("spread", INDEX, x, () -> x.spread(3, 4));
        check.refused("contributor", INDEX, x, () -> x.contributor(4, 3));
        check.refused("part: the dimension", INDEX, x, () -> x.part(0, 3, 3));
        check.refused("part: a face", INDEX, x, () -> x.part(4, 3, 0));
        check.refused("misfit", INDEX, x, () -> x.misfit(3));
        check.refused("tight: not consistent", INDEX, x, () -> x.tight(0, 4, true));
        check.refused("tight: below", INDEX, x, () -> x.tight(-1, 3, false));
    }

    private static void changedFirst(Check check) {
        DimensionChecker x = openRing();
        check.refused("transfer: no dimension, no face", INDEX, x, () -> x.transfer(3, 4));
        check.refused("transfer: doubled, no face", INDEX, x, () -> x.transfer(2, 4));
        check.refused("transfer: doubled, its first face", ARGUMENT, x, () -> x.transfer(2, 0));
        check.refused("transfer: doubled, its second face", ARGUMENT, x, () -> x.transfer(2, 2));
        check.refused("distribute: all three", INDEX, x, () -> x.distribute(3, 4, -1));
        check.refused("distribute: index, argument", INDEX, x, () -> x.distribute(-1, 0, 1999));
        check.refused("distribute: not connected", ARGUMENT, x, () -> x.distribute(0, 3, 1999));
        check.refused("distribute: s is 0", ARGUMENT, x, () -> x.distribute(0, 0, -1));
    }
}
