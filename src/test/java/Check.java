/** Counts and prints the answers that are not as due. */
final class Check {
    static final Class<?> INDEX = IndexOutOfBoundsException.class;
    static final Class<?> ARGUMENT = IllegalArgumentException.class;
    static final Class<?> STATE = IllegalStateException.class;

    /** A call of the class under test, whose answer is told as an Object. */
    interface Call {
        Object run();
    }

    /** A call with a number, or with one that is to be refused. */
    interface OfOne {
        Object run(int number);
    }

    /** A call with two numbers, mostly faces. */
    interface OfTwo {
        Object run(int first, int second);
    }

    private String title;
    private int wrong = 0;
    private int looked = 0;

    Check(String title) {
        this.title = title;
    }

    /** Later answers are told under this title. */
    void under(String newTitle) {
        title = newTitle;
    }

    void due(String call, Object want, Call body) {
        compare(call, want, answer(body));
    }

    /** The call must throw exactly this class, and leave the object as it was. */
    void refused(String call, Class<?> want, DimensionChecker x, Call body) {
        long before = x.digest();
        compare(call, thrown(want), answer(body));
        compare(call + ", digest behind it", before, x.digest());
    }

    /** The first properties of a dimension: from, to, nominal, lower, upper. */
    void row(String about, DimensionChecker x, int dimension, int... want) {
        for (int what = 0; what < want.length; what++) {
            int asked = what;
            due(about + ": property(" + dimension + ", " + what + ")", want[what],
                    () -> x.property(dimension, asked));
        }
    }

    /** Each two faces of which one is none, refused by index. */
    void facesRefused(String about, DimensionChecker x, int faces, OfTwo call) {
        for (int face : beside(faces, 12)) {
            refused(about + " from " + face, INDEX, x, () -> call.run(face, 0));
            refused(about + " to " + face, INDEX, x, () -> call.run(0, face));
        }
    }

    /** The numbers beside 0 to end - 1, refused by index. */
    void numbersRefused(String about, DimensionChecker x, int end, OfOne call) {
        for (int number : beside(end, 20)) {
            refused(about + " of " + number, INDEX, x, () -> call.run(number));
        }
    }

    private static int[] beside(int end, int most) {
        return new int[] {-1, end, most, Integer.MIN_VALUE, Integer.MAX_VALUE};
    }

    void compare(String call, Object want, Object got) {
        looked++;
        if (!want.equals(got)) {
            wrong++;
            System.out.println(title + ": " + call + " answered " + got + ", due is " + want);
        }
    }

    static String thrown(Class<?> kind) {
        return "throws." + kind.getName();
    }

    static Object answer(Call body) {
        try {
            return body.run();
        } catch (RuntimeException | Error e) {
            return thrown(e.getClass());
        }
    }

    int wrong() {
        return wrong;
    }

    int looked() {
        return looked;
    }

    void end() {
        System.out.println(title + ": " + looked + " answers looked at, " + wrong + " wrong");
        if (wrong != 0) {
            System.exit(1);
        }
    }
}
