/** Drawings that several tests begin with. */
final class Drawings {
    private Drawings() {
    }

    static DimensionChecker faces(int n) {
        DimensionChecker x = new DimensionChecker();
        x.setFaces(n);
        return x;
    }

    static DimensionChecker loaded(int n, String list) {
        DimensionChecker x = faces(n);
        write(x, list);
        x.load();
        return x;
    }

    static DimensionChecker written(int n, String text) {
        DimensionChecker x = faces(n);
        write(x, text);
        return x;
    }

    static void write(DimensionChecker x, String text) {
        for (char sign : text.toCharArray()) {
            x.append(sign);
        }
    }

    /** Two faces, and 20 dimensions with the nominal values 0 to 19 and the width 1. */
    static DimensionChecker full() {
        DimensionChecker x = faces(2);
        for (int d = 0; d < 20; d++) {
            x.addDimension(d % 2, 1 - d % 2, d, 0, 1);
        }
        return x;
    }

    /** Twelve faces in one row, joined by 11 dimensions, and 9 doubled ones that agree. */
    static DimensionChecker fullPath() {
        DimensionChecker x = path(12, 5, -1, 1);
        for (int d = 11; d < 20; d++) {
            x.addDimension(d - 11, d - 9, 10, -2, 2);
        }
        return x;
    }

    /** All faces in one row, each joined to the next by a dimension like all others. */
    static DimensionChecker path(int n, int nominal, int lower, int upper) {
        DimensionChecker x = faces(n);
        for (int face = 0; face + 1 < n; face++) {
            x.addDimension(face, face + 1, nominal, lower, upper);
        }
        return x;
    }
}
