import java.util.Arrays;
import java.util.Objects;

/** Counts and prints the answers that are not the due ones; a test's main ends with finish(). */
final class Check {
    interface Call {
        Object answer();
    }

    static final Class<?> NO_INDEX = IndexOutOfBoundsException.class;
    static final Class<?> NO_ARGUMENT = IllegalArgumentException.class;
    static final Class<?> NO_STATE = IllegalStateException.class;

    // Numbers that no BENCH, PLACE or ORDER has, whatever lies there.
    static final int[] NO_SUCH = {-1, 16, 17, Integer.MIN_VALUE, Integer.MAX_VALUE};
    static final int[] NO_BENCH = {-1, 2, -2, Integer.MIN_VALUE, Integer.MAX_VALUE};
    static final int[] NO_ORDER = {-1, 10, -2, Integer.MIN_VALUE, Integer.MAX_VALUE};
    static final int[][] NO_THING = {
        {-1, 0}, {10, 0}, {0, -1}, {0, 6}, {Integer.MIN_VALUE, 0}, {Integer.MAX_VALUE, 0},
        {0, Integer.MIN_VALUE}, {0, Integer.MAX_VALUE}
    };

    private int made;
    private int wrong;

    void due(String call, Object want, Object got) {
        made++;
        if (!Objects.equals(want, got)) {
            wrong++;
            System.out.println(call + " answered " + got + ", due is " + want);
        }
    }

    /** The call throws just that exception, and changes nothing. */
    void thrown(String call, Class<?> want, Orderbench bench, Call toMake) {
        String before = state(bench);
        Object got = "an answer";
        try {
            toMake.answer();
        } catch (RuntimeException e) {
            got = e.getClass();
        }
        due(call + " throws", want, got);
        due(call + " changes nothing", before, state(bench));
    }

    /** The call is REFUSED, and nothing but house() 3 changes by it. */
    void refused(String call, Orderbench bench, Call toMake) {
        String before = stateButRefusals(bench);
        int refusals = bench.house(3);
        due(call, -9, toMake.answer());
        due(call + " counts as refused", refusals + 1, bench.house(3));
        due(call + " changes nothing else", before, stateButRefusals(bench));
    }

    /** The call changes nothing that can be seen. */
    void asked(String call, Object want, Orderbench bench, Call toMake) {
        String before = state(bench);
        due(call, want, toMake.answer());
        due(call + " changes nothing", before, state(bench));
    }

    void finish(String test) {
        System.out.println(test + ": " + made + " checks, " + wrong + " wrong");
        if (wrong > 0 || made == 0) {
            System.exit(1);
        }
    }

    static String state(Orderbench bench) {
        return stateButRefusals(bench) + " " + bench.house(3) + " " + bench.digest();
    }

    private static String stateButRefusals(Orderbench bench) {
        StringBuilder told = new StringBuilder();
        for (int b = 0; b < 2; b++) {
            told.append(bench.size(b)).append(": ").append(bench.text(b)).append('\n');
        }
        for (int o = 0; o < 10; o++) {
            told.append(bench.shape(o)).append(' ').append(bench.isSafe(o)).append('\n');
        }
        int[] house = {bench.house(0), bench.house(1), bench.house(2), bench.house(4), bench.house(5)};
        return told.append(Arrays.toString(house)).toString();
    }

    static Orderbench fresh() {
        return new Orderbench();
    }

    /** A THING for each two-sign text ("3b"), NOTHING for "-", laid on the BENCH. */
    static Orderbench lay(Orderbench bench, int on, String texts) {
        for (String text : texts.split(" ")) {
            if (text.equals("-")) {
                bench.layNothing(on);
            } else if (!text.isEmpty()) {
                bench.lay(on, text.charAt(0) - '0', text.charAt(1) - 'a');
            }
        }
        return bench;
    }

    static Orderbench laid(String texts) {
        return lay(fresh(), 0, texts);
    }

    /** The ORDER becomes the one that these steps make: bases by their signs, "~", "[", "]" behind what they are of. */
    static void make(Orderbench bench, int order, String steps) {
        for (char step : steps.toCharArray()) {
            int kind = "wlpnbdt".indexOf(step);
            if (kind >= 0) {
                bench.base(order, kind);
            } else if (step == '~') {
                bench.turn(order, order);
            } else {
                bench.ends(order, order, step == ']');
            }
        }
    }
}
