/** On which place among the numbers of promise 38 each number stands, by how long the texts are. */
final class DigestLayout {
    static final int SORTED = 0;
    static final int CLASSES = 1;
    static final int LEAST = 2;
    static final int GREATEST = 3;

    private static final int OF_EACH_ORDER = 4;

    private final int[] texts = new int[2];
    private final int[] shapes = new int[10];

    static DigestLayout of(Orderbench bench) {
        DigestLayout layout = new DigestLayout();
        for (int b = 0; b < 2; b++) {
            layout.texts[b] = bench.text(b).length();
        }
        for (int o = 0; o < 10; o++) {
            layout.shapes[o] = bench.shape(o).length();
        }
        return layout;
    }

    int text(int bench, int sign) {
        return 6 + (bench == 0 ? 0 : texts[0] + 10 * OF_EACH_ORDER) + sign;
    }

    int told(int bench, int order, int which) {
        return text(bench, texts[bench]) + order * OF_EACH_ORDER + which;
    }

    int shape(int order, int sign) {
        int place = told(1, 10, 0);
        for (int o = 0; o < order; o++) {
            place += shapes[o] + 1;
        }
        return place + sign;
    }

    int safe(int order) {
        return shape(order, shapes[order]);
    }

    int sound() {
        return shape(10, 0);
    }

    /** By how much the digest grows if the number on this place grows by 1, and no other one changes. */
    long weight(int place) {
        long weight = 1;
        for (int k = place; k < sound(); k++) {
            weight *= 31;
        }
        return weight;
    }

    long weightOfHouse(int what) {
        return weight(what);
    }
}
