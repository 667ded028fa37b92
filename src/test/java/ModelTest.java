import java.util.Random;

/** Long runs of calls, drawn with a fixed seed, answered by the class and by the model. */
public final class ModelTest {
    private static final Check CHECK = new Check("model");
    private static final int RUNS = 1500;
    /** An object answers 512 calls; one round of a run may make some sixty, most of them append. */
    private static final int CALLS = 430;
    private static final int[] ODD = {-1, 12, 20, Integer.MIN_VALUE, Integer.MAX_VALUE};

    private final Random random;
    private final DimensionChecker x = new DimensionChecker();
    private final Model model = new Model();
    private final String run;
    private final int nominals;
    private final int deviations;
    private int faces = 2;
    private int calls = 0;

    private ModelTest(int seed) {
        random = new Random(seed);
        run = "run " + seed + ": ";
        // Small numbers let dimensions agree by chance, great ones reach the ranges' ends.
        nominals = new int[] {3, 30, 700, 45000, 99999}[random.nextInt(5)];
        deviations = new int[] {2, 12, 200, 999}[random.nextInt(4)];
    }

    public static void main(String[] args) {
        for (int seed = 1; seed <= RUNS && CHECK.wrong() == 0; seed++) {
            new ModelTest(seed).play();
        }
        CHECK.end();
    }

    private void play() {
        setFaces(2 + random.nextInt(11));
        while (calls < CALLS && CHECK.wrong() == 0) {
            change(random.nextInt(20));
            ask(random.nextInt(14));
            both("digest", () -> x.digest(), () -> model.digest());
        }
    }

    private void both(String call, Check.Call body, Check.Call want) {
        calls++;
        CHECK.compare(run + call, Check.answer(want), Check.answer(body));
    }

    private int face() {
        return random.nextInt(60) == 0 ? ODD[random.nextInt(5)]
                : random.nextInt(40) == 0 ? faces : random.nextInt(faces);
    }

    private int dimension() {
        int count = model.dimensionCount();
        return random.nextInt(60) == 0 ? ODD[random.nextInt(5)]
                : random.nextInt(40) == 0 || count == 0 ? count : random.nextInt(count);
    }

    private int around(int most) {
        return random.nextInt(80) == 0 ? most + 1 : random.nextInt(2 * most + 1) - most;
    }

    private void setFaces(int n) {
        both("setFaces " + n, () -> x.setFaces(n), () -> model.setFaces(n));
        faces = n >= 2 && n <= 12 ? n : faces;
    }

    private void change(int kind) {
        switch (kind) {
            case 0:
                if (random.nextInt(12) == 0) {
                    setFaces(random.nextInt(14));
                }
                break;
            case 1, 2, 3, 4, 5, 6:
                addDimension();
                break;
            case 7:
                int gone = dimension();
                both("removeDimension " + gone, () -> x.removeDimension(gone),
                        () -> model.removeDimension(gone));
                break;
            case 8:
                setDeviations(dimension(), around(deviations), around(deviations));
                break;
            case 9:
                char grade = random.nextInt(3) == 0 ? "fmcvxF".charAt(random.nextInt(6)) : 'f';
                both("general " + grade, () -> x.general(grade), () -> model.general(grade));
                break;
            case 10, 11, 12:
                input();
                break;
            case 13, 14, 15, 16:
                transfer(dimension(), face());
                break;
            default:
                distribute(face(), face(), around(random.nextInt(3) == 0 ? 2000 : 40));
                break;
        }
    }

    private void addDimension() {
        int a = face();
        int b = face();
        int nominal = around(nominals);
        int one = around(deviations);
        int two = random.nextInt(6) == 0 ? one : around(deviations);
        int lower = random.nextInt(8) == 0 ? 0 : Math.min(one, two);
        int upper = random.nextInt(8) == 0 ? 0 : Math.max(one, two);
        both("addDimension " + a + " " + b + " " + nominal + " " + lower + " " + upper,
                () -> x.addDimension(a, b, nominal, lower, upper),
                () -> model.addDimension(a, b, nominal, lower, upper));
    }

    private void setDeviations(int d, int lower, int upper) {
        both("setDeviations " + d + " " + lower + " " + upper,
                () -> x.setDeviations(d, lower, upper), () -> model.setDeviations(d, lower, upper));
    }

    private void transfer(int d, int datum) {
        both("transfer " + d + " " + datum, () -> x.transfer(d, datum),
                () -> model.transfer(d, datum));
    }

    private void distribute(int a, int b, int width) {
        int wanted = random.nextInt(30) == 0 ? width : Math.abs(width);
        both("distribute " + a + " " + b + " " + wanted, () -> x.distribute(a, b, wanted),
                () -> model.distribute(a, b, wanted));
    }

    private void input() {
        int pieces = random.nextInt(4);
        for (int i = 0; i < pieces; i++) {
            write(piece() + (i + 1 < pieces || random.nextInt(5) == 0 ? ";" : ""));
        }
        both("firstError", () -> x.firstError(), () -> model.firstError());
        both("load", () -> x.load(), () -> model.load());
        if (random.nextInt(2) == 0) {
            both("clearInput", () -> x.clearInput(), () -> model.clearInput());
        }
    }

    private String piece() {
        StringBuilder text = new StringBuilder();
        text.append((char) ('A' + random.nextInt(faces)));
        text.append((char) ('A' + random.nextInt(faces)));
        text.append('=').append(around(nominals));
        if (random.nextInt(3) > 0) {
            int one = around(Math.min(deviations, 40));
            int two = around(Math.min(deviations, 40));
            boolean apart = random.nextInt(10) > 0;
            text.append(String.format("[%+d,%+d]", apart ? Math.min(one, two) : one,
                    apart ? Math.max(one, two) : two));
        }
        if (random.nextInt(6) == 0) {
            text.insert(random.nextInt(text.length()), "AL=-0[],+9; ]".charAt(random.nextInt(13)));
        }
        if (random.nextInt(8) == 0) {
            text.deleteCharAt(random.nextInt(text.length()));
        }
        return text.toString();
    }

    private void write(String text) {
        for (char sign : text.toCharArray()) {
            int code = random.nextInt(200) == 0 ? random.nextInt(200) - 20 : sign;
            both("append " + code, () -> x.append(code), () -> model.append(code));
        }
    }

    private void ask(int kind) {
        int a = face();
        int b = face();
        int d = dimension();
        int i = random.nextInt(6) - 1;
        boolean upper = random.nextBoolean();
        String of = " " + a + " " + b + " " + d + " " + i + " " + upper;
        switch (kind) {
            case 0 -> both("property" + of, () -> x.property(d, i), () -> model.property(d, i));
            case 1 -> both("dimensionCount", () -> x.dimensionCount(),
                    () -> model.dimensionCount());
            case 2 -> both("isDoubled" + of, () -> x.isDoubled(d), () -> model.isDoubled(d));
            case 3 -> both("missing", () -> x.missing(), () -> model.missing());
            case 4 -> both("partOf" + of, () -> x.partOf(a), () -> model.partOf(a));
            case 5 -> both("chainLength" + of, () -> x.chainLength(a, b),
                    () -> model.chainLength(a, b));
            case 6 -> both("chainDimension" + of, () -> x.chainDimension(a, b, i),
                    () -> model.chainDimension(a, b, i));
            case 7 -> both("gap" + of, () -> x.gap(a, b, i), () -> model.gap(a, b, i));
            case 8 -> both("spread" + of, () -> x.spread(a, b), () -> model.spread(a, b));
            case 9 -> both("contributor" + of, () -> x.contributor(a, b),
                    () -> model.contributor(a, b));
            case 10 -> both("part" + of, () -> x.part(a, b, d), () -> model.part(a, b, d));
            case 11 -> both("misfit" + of, () -> x.misfit(d), () -> model.misfit(d));
            case 12 -> both("isConsistent", () -> x.isConsistent(), () -> model.isConsistent());
            default -> both("tight" + of, () -> x.tight(a, b, upper),
                    () -> model.tight(a, b, upper));
        }
    }
}
