import java.util.Objects;

/** Counts and prints the answers that are not the due ones; a test's main ends with finish(). */
final class Check {
    interface Call {
        Object answer();
    }

    interface Maker {
        Orderbench make();
    }

    /** A call of which one argument is still open. */
    interface Given {
        Object answer(Orderbench bench, int argument);
    }

    static final Class<?> NO_INDEX = IndexOutOfBoundsException.class;
    static final Class<?> NO_ARGUMENT = IllegalArgumentException.class;
    static final Class<?> NO_STATE = IllegalStateException.class;

    // Numbers that no BENCH, PLACE or ORDER has, whatever lies there.
    static final int[] NO_SUCH = {-1, 16, 17, Integer.MIN_VALUE, Integer.MAX_VALUE};
    static final int[] NO_BENCH = {-1, 2, -2, Integer.MIN_VALUE, Integer.MAX_VALUE};
    static final int[] NO_ORDER = {-1, 10, -2, Integer.MIN_VALUE, Integer.MAX_VALUE};
    static final int[][] NO_THING = {
        {-1, 0}, {10, 0}, {0, -1}, {0, 6}, {Integer.MIN_VALUE, 0}, {Integer.MAX_VALUE, 0},
        {0, Integer.MIN_VALUE}, {0, Integer.MAX_VALUE}
    };

    private int made;
    private int wrong;
    private String where = "";

    /** What is printed ahead of each wrong answer from now on. */
    void at(String place) {
        where = place;
    }

    int made() {
        return made;
    }

    void due(String call, Object want, Object got) {
        made++;
        if (!Objects.equals(want, got)) {
            wrong++;
            System.out.println(where + call + " answered " + got + ", due is " + want);
        }
    }

    /** The call throws just that exception, and changes nothing. */
    void thrown(String call, Class<?> want, Orderbench bench, Call toMake) {
        String before = state(bench);
        Object got = "an answer";
        try {
            toMake.answer();
        } catch (RuntimeException e) {
            got = e.getClass();
        }
        due(call + " throws", want, got);
        due(call + " changes nothing", before, state(bench));
    }

    /** The call is REFUSED, and nothing but house() 3 changes by it. */
    void refused(String call, Orderbench bench, Call toMake) {
        String texts = bench.text(0) + "|" + bench.text(1);
        int refusals = bench.house(3);
        long digest = bench.digest();
        due(call, -9, toMake.answer());
        due(call + " counts as refused", refusals + 1, bench.house(3));
        due(call + " changes no bench", texts, bench.text(0) + "|" + bench.text(1));
        long grown = DigestLayout.of(bench).weightOfHouse(3);
        due(call + " changes house(3) alone in the digest", digest + grown, bench.digest());
    }

    /** REFUSED or another answer, as it is due; but for a count of REFUSED nothing changes. */
    void answers(String call, Object want, Orderbench bench, Call toMake) {
        if (want.equals(-9)) {
            refused(call, bench, toMake);
        } else {
            asked(call, want, bench, toMake);
        }
    }

    /** The least and the greatest argument are taken; the first ones beyond, and the farthest ones, throw. */
    void bounds(String call, int least, Object atLeast, int greatest, Object atGreatest, Class<?> beyond,
            Maker maker, Given given) {
        taken(call, least, atLeast, maker, given);
        taken(call, greatest, atGreatest, maker, given);
        for (int argument : new int[] {least - 1, greatest + 1, Integer.MIN_VALUE, Integer.MAX_VALUE}) {
            Orderbench bench = maker.make();
            thrown(call + " " + argument, beyond, bench, () -> given.answer(bench, argument));
        }
    }

    void taken(String call, int argument, Object want, Maker maker, Given given) {
        Object got;
        try {
            got = given.answer(maker.make(), argument);
        } catch (RuntimeException e) {
            got = e.getClass();
        }
        due(call + " " + argument, want, got);
    }

    /** The call changes nothing that can be seen. */
    void asked(String call, Object want, Orderbench bench, Call toMake) {
        String before = state(bench);
        due(call, want, toMake.answer());
        due(call + " changes nothing", before, state(bench));
    }

    void finish(String test) {
        System.out.println(test + ": " + made + " checks, " + wrong + " wrong");
        if (wrong > 0 || made == 0) {
            System.exit(1);
        }
    }

    /** All that can be seen of it, in few calls: an object is used for no more than 512. */
    static String state(Orderbench bench) {
        return bench.text(0) + "|" + bench.text(1) + "|" + bench.house(3) + "|" + bench.digest();
    }

    static Orderbench fresh() {
        return new Orderbench();
    }

    /** A THING for each two-sign text ("3b"), NOTHING for "-", laid on the BENCH. */
    static Orderbench lay(Orderbench bench, int on, String texts) {
        for (String text : texts.split(" ")) {
            if (text.equals("-")) {
                bench.layNothing(on);
            } else if (!text.isEmpty()) {
                bench.lay(on, text.charAt(0) - '0', text.charAt(1) - 'a');
            }
        }
        return bench;
    }

    static Orderbench laid(String texts) {
        return lay(fresh(), 0, texts);
    }

    /**
     * The ORDER becomes the one that these steps make: bases by their signs, "~", "[", "]" behind what they
     * are of, "<" and ">" for "[" and "]" without an o.
     */
    static void make(Orderbench bench, int order, String steps) {
        for (char step : steps.toCharArray()) {
            int kind = "wlpnbdt".indexOf(step);
            if (kind >= 0) {
                bench.base(order, kind);
            } else if (step == '~') {
                bench.turn(order, order);
            } else if (step == '<' || step == '>') {
                bench.ends(order, -1, step == '>');
            } else {
                bench.ends(order, order, step == ']');
            }
        }
    }

    /** These lie on the BENCH 0, and the ORDER 3 is the one that the steps make. */
    static Orderbench with(String texts, String steps) {
        Orderbench bench = laid(texts);
        make(bench, 3, steps);
        return bench;
    }

    /** The steps of an ORDER of this SIZE that is not SAFE. */
    static String unsafeOf(int size) {
        return "w".concat("~".repeat(size - 1));
    }

    /** The steps of an ORDER of this SIZE that is SAFE. */
    static String safeOf(int size) {
        return "<".concat("~".repeat(size - 1));
    }
}
