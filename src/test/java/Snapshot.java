import java.util.ArrayList;
import java.util.List;

/** All that an object answers about its state, and then what it makes of a few changes. */
final class Snapshot {
    private final DimensionChecker x;
    private final List<Object> answers = new ArrayList<>();

    private Snapshot(DimensionChecker x) {
        this.x = x;
    }

    /** For drawings of a few faces: an object answers 512 calls in all. */
    static List<Object> of(DimensionChecker x, int faces) {
        Snapshot snapshot = new Snapshot(x);
        snapshot.ask(faces);
        snapshot.goOn();
        return snapshot.answers;
    }

    private void note(Check.Call body) {
        answers.add(Check.answer(body));
    }

    private void ask(int faces) {
        note(() -> x.digest());
        note(() -> x.dimensionCount());
        note(() -> x.missing());
        note(() -> x.firstError());
        note(() -> x.contradictions());
        note(() -> x.isConsistent());
        int count = x.dimensionCount();
        for (int d = 0; d <= count; d++) {
            askDimension(d);
        }
        for (int a = 0; a <= faces; a++) {
            int face = a;
            note(() -> x.partOf(face));
            for (int b = 0; b < faces; b++) {
                askPair(a, b);
            }
        }
    }

    private void askDimension(int d) {
        for (int what = 0; what <= 4; what++) {
            int asked = what;
            note(() -> x.property(d, asked));
        }
        note(() -> x.isDoubled(d));
        note(() -> x.misfit(d));
    }

    private void askPair(int a, int b) {
        note(() -> x.chainLength(a, b));
        note(() -> x.chainDimension(a, b, 0));
        note(() -> x.chainDimension(a, b, 1));
        note(() -> x.gap(a, b, 0));
        note(() -> x.gap(a, b, 1));
        note(() -> x.gap(a, b, 2));
        note(() -> x.spread(a, b));
        note(() -> x.contributor(a, b));
        note(() -> x.part(a, b, 0));
        note(() -> x.tight(a, b, true));
        note(() -> x.tight(a, b, false));
    }

    private void goOn() {
        note(() -> x.load());
        note(() -> x.distribute(0, 1, 7));
        note(() -> x.transfer(1, 0));
        note(() -> x.addDimension(1, 0, 3, -1, 1));
        note(() -> x.removeDimension(0));
        note(() -> x.general('m'));
        note(() -> x.digest());
        note(() -> x.clearInput());
        Drawings.write(x, "AB=3;BA=-4");
        note(() -> x.load());
        note(() -> x.digest());
        note(() -> x.setFaces(3));
        note(() -> x.digest());
    }
}
