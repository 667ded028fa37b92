/** Counts and prints the answers that are not as due. */
final class Check {
    /** A call of the class under test, whose answer is told as an Object. */
    interface Call {
        Object run();
    }

    private final String title;
    private int wrong = 0;
    private int looked = 0;

    Check(String title) {
        this.title = title;
    }

    void due(String call, Object want, Call body) {
        compare(call, want, answer(body));
    }

    /** The call must throw exactly this class, and leave the object as it was. */
    void refused(String call, Class<?> want, DimensionChecker x, Call body) {
        long before = x.digest();
        compare(call, thrown(want), answer(body));
        compare(call + ", digest behind it", before, x.digest());
    }

    void compare(String call, Object want, Object got) {
        looked++;
        if (!want.equals(got)) {
            wrong++;
            System.out.println(title + ": " + call + " answered " + got + ", due is " + want);
        }
    }

    static String thrown(Class<?> kind) {
        return "throws." + kind.getName();
    }

    static Object answer(Call body) {
        try {
            return body.run();
        } catch (RuntimeException | Error e) {
            return thrown(e.getClass());
        }
    }

    int wrong() {
        return wrong;
    }

    void end() {
        System.out.println(title + ": " + looked + " answers looked at, " + wrong + " wrong");
        if (wrong != 0) {
            System.exit(1);
        }
    }
}
