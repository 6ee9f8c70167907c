import java.lang.reflect.InvocationTargetException;
import java.lang.reflect.Method;
import java.util.Arrays;
import java.util.HashMap;
import java.util.Map;

/** Long runs of calls, each answer held against the model's; the same runs each time. */
public final class ModelTest {
    private static final Check check = new Check();
    private static final int RUNS = 400;

    // With isSound() and digest() at the end these are the 512 for which an object is used.
    private static final int CALLS = 510;

    /**
     * Behind each name what its arguments are: b a BENCH, o an ORDER, O one or NONE, p a PLACE, w a WEIGHT,
     * l a LETTER, k a kind, m how many, n a number to fill, f false or true, h what of the house.
     */
    private static final String[] CALLED = (
            "lay:bwl lay:bwl lay:bwl lay:bwl lay:bwl layNothing:b fill:bmnn fill:bmnn take:bp swap:bpp clear:b copy:b sort:bo sort:bo"
            + " sort:bo reverse:b base:ok base:ok base:ok turn:oo together:ooo together:ooo ends:oOf ends:oOf keep:oo"
            + " shape:o isSafe:o compare:obpp compare:obpp against:owlbp against:owlbp tellAlike:oob isPreorder:ob text:b"
            + " thing:bp size:b isSorted:bo classes:bo least:bo greatest:bo found:bowl found:bowl room:bowl room:bowl"
            + " isTwice:boo nothings:b alikeTo:bop aheadOf:bop house:h knock: isSound: digest:").split(" ");

    private static final Map<String, Method> METHODS = new HashMap<>();

    private long seed;

    private ModelTest(long seed) {
        this.seed = seed;
    }

    public static void main(String[] args) throws IllegalAccessException {
        for (Method method : Orderbench.class.getMethods()) {
            METHODS.put(method.getName(), method);
        }
        for (int run = 0; run < RUNS; run++) {
            new ModelTest(run * 7919L + 17).run("run " + run);
        }
        check.finish("ModelTest");
    }

    private int below(int bound) {
        seed = seed * 6364136223846793005L + 1442695040888963407L;
        return (int) ((seed >>> 33) % bound);
    }

    private void run(String which) throws IllegalAccessException {
        Orderbench bench = new Orderbench();
        Model model = new Model();
        // Some runs have no NOTHINGS or small benches, so that what needs such ones is answered often enough.
        boolean withNothings = below(3) > 0;
        int clearing = below(3) == 0 ? 10 : 200;
        for (int k = 0; k < CALLS; k++) {
            String[] called = CALLED[below(CALLED.length)].split(":", -1);
            boolean makesNothing = called[0].equals("layNothing") || called[0].equals("fill");
            if (makesNothing && !withNothings) {
                called = new String[] {"lay", "bwl"};
            }
            if (below(clearing) == 0) {
                called = new String[] {"clear", "b"};
            }
            int[] given = arguments(called[1], model);
            String call = which + ", call " + k + ": " + called[0] + Arrays.toString(given);
            check.due(call, modelAnswer(model, called[0], given), answer(bench, called[0], given));
        }
        for (String asked : new String[] {"isSound", "digest"}) {
            check.due(which + ": " + asked, modelAnswer(model, asked), answer(bench, asked));
        }
    }

    private int[] arguments(String kinds, Model model) {
        int[] given = new int[kinds.length()];
        int on = below(2);
        for (int k = 0; k < given.length; k++) {
            char kind = kinds.charAt(k);
            int bound = bound(kind, (int) model.call("size", on));
            given[k] = kind == 'b' ? on : kind == 'O' ? below(11) - 1 : bound > 0 ? below(bound) : 0;
            if (kind != 'f' && below(40) == 0) {
                given[k] = new int[] {-1, -2, bound, bound + 1, Integer.MIN_VALUE, Integer.MAX_VALUE}[below(6)];
            }
        }
        return given;
    }

    private int bound(char kind, int size) {
        return switch (kind) {
            case 'b', 'f' -> 2;
            case 'o', 'O', 'w' -> 10;
            case 'l', 'h' -> 6;
            case 'k' -> 7;
            case 'm' -> below(3) == 0 ? 17 : 5;
            case 'n' -> 100;
            default -> size;
        };
    }

    private static Object modelAnswer(Model model, String name, int... given) {
        try {
            return model.call(name, given);
        } catch (IndexOutOfBoundsException | IllegalArgumentException | IllegalStateException e) {
            return e.getClass();
        }
    }

    private static Object answer(Orderbench bench, String name, int... given) throws IllegalAccessException {
        Method method = METHODS.get(name);
        Object[] passed = new Object[given.length];
        for (int k = 0; k < given.length; k++) {
            passed[k] = method.getParameterTypes()[k] == boolean.class ? (Object) (given[k] == 1) : (Object) given[k];
        }
        try {
            return method.invoke(bench, passed);
        } catch (InvocationTargetException e) {
            return e.getCause().getClass();
        }
    }
}
