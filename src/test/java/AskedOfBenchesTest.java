/** Promises 22 to 34: what is asked of benches. */
public final class AskedOfBenchesTest {
    private static final Check check = new Check();

    /** A call that takes a BENCH and an ORDER. */
    private interface Asked {
        Object of(int bench, int order);
    }

    public static void main(String[] args) {
        promise22Text();
        promise23Thing();
        promise24Size();
        promise25IsSorted();
        promise26Classes();
        promise27Least();
        promise28Greatest();
        promise29Found();
        promise30Room();
        promise31IsTwice();
        promise32Nothings();
        promise33AlikeTo();
        promise34AheadOf();
        check.finish("AskedOfBenchesTest");
    }

    private static void noSuch(String call, Orderbench x, Asked asked) {
        for (int none : Check.NO_BENCH) {
            check.thrown(call + " bench " + none, Check.NO_INDEX, x, () -> asked.of(none, 0));
        }
        for (int none : Check.NO_ORDER) {
            check.thrown(call + " order " + none, Check.NO_INDEX, x, () -> asked.of(0, none));
        }
    }

    private static Orderbench with(String texts, String steps) {
        Orderbench x = Check.laid(texts);
        Check.make(x, 3, steps);
        return x;
    }

    private static void promise22Text() {
        Orderbench x = Check.laid("3b - - 0a 9f");
        check.asked("text", "3b#0 - - 0a#1 9f#2", x, () -> x.text(0));
        check.asked("of an empty bench", "", x, () -> x.text(1));
        x.layNothing(1);
        check.asked("of a nothing", "-", x, () -> x.text(1));
        for (int k = 0; k < 120; k++) {
            x.clear(0);
            x.lay(0, k % 10, k % 6);
        }
        check.asked("a long number", "9f#122", x, () -> x.text(0));
        for (int none : Check.NO_BENCH) {
            check.thrown("text bench " + none, Check.NO_INDEX, x, () -> x.text(none));
        }
    }

    private static void promise23Thing() {
        Orderbench x = Check.laid("3b - 0a");
        check.asked("the first", "3b#0", x, () -> x.thing(0, 0));
        check.asked("a nothing", "-", x, () -> x.thing(0, 1));
        check.asked("the last", "0a#1", x, () -> x.thing(0, 2));
        for (int none : Check.NO_BENCH) {
            check.thrown("thing bench " + none, Check.NO_INDEX, x, () -> x.thing(none, 0));
        }
        for (int none : new int[] {-1, 3, 16, Integer.MIN_VALUE, Integer.MAX_VALUE}) {
            check.thrown("thing place " + none, Check.NO_INDEX, x, () -> x.thing(0, none));
        }
        check.thrown("of an empty bench", Check.NO_INDEX, x, () -> x.thing(1, 0));
        x.clear(0);
        check.thrown("of a cleared bench", Check.NO_INDEX, x, () -> x.thing(0, 0));
    }

    private static void promise24Size() {
        Orderbench x = Check.laid("3b - 0a");
        check.asked("three", 3, x, () -> x.size(0));
        check.asked("none", 0, x, () -> x.size(1));
        x.fill(1, 16, 0, 0);
        check.asked("sixteen", 16, x, () -> x.size(1));
        for (int none : Check.NO_BENCH) {
            check.thrown("size bench " + none, Check.NO_INDEX, x, () -> x.size(none));
        }
    }

    private static void sorted(String texts, String steps, boolean want) {
        Orderbench x = with(texts, steps);
        check.asked(texts + " is sorted by " + steps, want, x, () -> x.isSorted(0, 3));
    }

    private static void promise25IsSorted() {
        sorted("", "w", true);
        sorted("3b", "w", true);
        sorted("-", "w", true);
        sorted("- -", "w", false);
        sorted("- 1a", "w", false);
        sorted("1a 2a -", "w", false);
        sorted("1a 1b 1a 2a", "w", true);
        sorted("1a 1b 1a 2a", "l", false);
        sorted("1a 1b 1c 0a", "w", false);
        sorted("2a 1a 3a", "w", false);
        sorted("2a 1a 4a", "p", false);
        sorted("2a 4a 3a 1a", "p", true);
        sorted("2a 1a", "w~", true);
        sorted("- - 1a", "w[", true);
        sorted("- 1a -", "w[", false);
        sorted("1a - -", "w]", true);
        sorted("1a - -", "w[", false);
        sorted("1a - -", "w[~", true);
        Orderbench x = with("1a", "w");
        noSuch("isSorted", x, x::isSorted);
    }

    private static void classes(String texts, String steps, int want) {
        Orderbench x = with(texts, steps);
        check.asked(texts + " has classes by " + steps, want, x, () -> x.classes(0, 3));
    }

    private static void promise26Classes() {
        classes("", "w", 0);
        classes("3b", "w", 1);
        classes("3b 2b 3a 2b", "w", 2);
        classes("3b 2b 3a 2b", "l", 2);
        classes("3b 2b 3a 2b", "n", 3);
        classes("3b 2b 3a 2b", "p", 2);
        classes("0a 1a 2a 3a 4a 5a", "d", 3);
        classes("3b - 3a -", "w[", 2);
        classes("- -", "w]", 1);
        Orderbench none = Check.laid("3b - 2a -");
        none.ends(3, -1, false);
        check.asked("without another order", 2, none, () -> none.classes(0, 3));
        for (String texts : new String[] {"-", "- -", "3b 2a -"}) {
            Orderbench x = with(texts, "w");
            check.refused(texts + " is refused", x, () -> x.classes(0, 3));
        }
        Orderbench x = with("1a -", "w");
        noSuch("classes", x, x::classes);
    }

    private static void promise27Least() {
        Orderbench x = with("3b 2b 9a 2a 9c 2c 9d", "w");
        check.asked("least", 3, x, () -> x.least(0, 3));
        Check.make(x, 4, "w~");
        check.asked("turned", 3, x, () -> x.least(0, 4));
        Check.make(x, 5, "l");
        check.asked("by letter", 2, x, () -> x.least(0, 5));
        Check.make(x, 6, "n");
        check.asked("by both", 1, x, () -> x.least(0, 6));
        x.layNothing(0);
        check.refused("a nothing there", x, () -> x.least(0, 3));
        Check.make(x, 7, "w[");
        check.asked("a nothing first", 1, x, () -> x.least(0, 7));
        Check.make(x, 8, "w]");
        check.asked("a nothing last", 3, x, () -> x.least(0, 8));
        for (String one : "0a 9f 3b".split(" ")) {
            Orderbench alone = with(one, "t");
            check.asked("one alone", 1, alone, () -> alone.least(0, 3));
            check.asked("one alone, by weight", 1, alone, () -> alone.least(0, 0));
        }
        check.refused("of an empty bench", x, () -> x.least(1, 3));
        check.refused("of an empty bench, safe", x, () -> x.least(1, 7));
        x.layNothing(1);
        check.refused("a nothing alone", x, () -> x.least(1, 3));
        check.asked("a nothing alone, safe", 1, x, () -> x.least(1, 7));
        noSuch("least", x, x::least);
    }

    private static void promise28Greatest() {
        Orderbench x = with("3b 2b 9a 2a 9c 2c", "w");
        check.asked("greatest", 2, x, () -> x.greatest(0, 3));
        Check.make(x, 4, "w~");
        check.asked("turned", 3, x, () -> x.greatest(0, 4));
        Check.make(x, 5, "d");
        check.asked("by rest", 3, x, () -> x.greatest(0, 5));
        Check.make(x, 6, "n");
        check.asked("by both", 1, x, () -> x.greatest(0, 6));
        x.layNothing(0);
        check.refused("a nothing there", x, () -> x.greatest(0, 3));
        Check.make(x, 7, "w[");
        check.asked("a nothing first", 2, x, () -> x.greatest(0, 7));
        Check.make(x, 8, "w]");
        check.asked("a nothing last", 1, x, () -> x.greatest(0, 8));
        for (String one : "0a 9f 3b".split(" ")) {
            Orderbench alone = with(one, "t");
            check.asked("one alone", 1, alone, () -> alone.greatest(0, 3));
            check.asked("one alone, by weight", 1, alone, () -> alone.greatest(0, 0));
        }
        check.refused("of an empty bench", x, () -> x.greatest(1, 3));
        check.refused("of an empty bench, safe", x, () -> x.greatest(1, 7));
        x.layNothing(1);
        check.refused("a nothing alone", x, () -> x.greatest(1, 3));
        check.asked("a nothing alone, safe", 1, x, () -> x.greatest(1, 7));
        noSuch("greatest", x, x::greatest);
    }

    private static void sought(String texts, String steps, int weight, int letter, int found, int room) {
        Orderbench x = with(texts, steps);
        check.asked(texts + " found by " + steps, found, x, () -> x.found(0, 3, weight, letter));
        check.asked(texts + " room by " + steps, room, x, () -> x.room(0, 3, weight, letter));
    }

    private static void notSought(String texts, String steps) {
        Orderbench x = with(texts, steps);
        check.refused(texts + " not found by " + steps, x, () -> x.found(0, 3, 1, 0));
        check.refused(texts + " no room by " + steps, x, () -> x.room(0, 3, 1, 0));
    }

    private static void promise29Found() {
        sought("", "w", 1, 1, 0, 0);
        sought("1a 3b 3c 5a", "w", 3, 5, 1, -1);
        sought("1a 3b 3c 5a", "n", 3, 5, 0, 3);
        sought("1a 3b 3c 5a", "n", 3, 2, 1, -1);
        sought("- - 1a 3b", "w[", 1, 0, 1, -1);
        sought("1a", "w", 1, 5, 1, -1);
        sought("5a 3b 1a", "w~", 3, 0, 1, -1);
        notSought("3b 1a", "w");
        notSought("-", "w");
        notSought("- 1a", "w");
        notSought("- 1a", "w]");
        notSought("1a 3b 2a", "w");
        Orderbench x = with("2a 1a", "w");
        noSuch("found", x, (bench, order) -> x.found(bench, order, 10, 6));
        for (int[] none : Check.NO_THING) {
            check.thrown("found no thing", Check.NO_ARGUMENT, x, () -> x.found(0, 0, none[0], none[1]));
        }
    }

    private static void promise30Room() {
        sought("1a 3b 3c 5a", "w", 0, 5, 0, 0);
        sought("1a 3b 3c 5a", "w", 2, 5, 0, 1);
        sought("1a 3b 3c 5a", "w", 4, 0, 0, 3);
        sought("1a 3b 3c 5a", "w", 9, 0, 0, 4);
        sought("5a 3b 3c 1a", "w~", 4, 0, 0, 1);
        sought("- - 1a 3b", "w[", 0, 0, 0, 2);
        sought("- - 1a 3b", "w[", 2, 0, 0, 3);
        sought("1a 3b - -", "w]", 9, 0, 0, 2);
        sought("- -", "w[", 9, 0, 0, 2);
        sought("- -", "w]", 9, 0, 0, 0);
        Orderbench x = with("2a 1a", "w");
        noSuch("room", x, (bench, order) -> x.room(bench, order, 10, 6));
        for (int[] none : Check.NO_THING) {
            check.thrown("room no thing", Check.NO_ARGUMENT, x, () -> x.room(0, 0, none[0], none[1]));
        }
    }

    private static void promise31IsTwice() {
        String[] shapes = "w l p n b d t w~ w[ l] p[~ d]~[".split(" ");
        for (String texts : new String[] {"", "-", "3b", "- -", "3b - 1a - 3a", "5a 5b 4a 5a 4b 3c 5c 4a 3a 0f"}) {
            for (String first : shapes) {
                for (String second : shapes) {
                    Orderbench x = Check.laid(texts);
                    Check.make(x, 1, first);
                    Check.make(x, 2, second);
                    check.asked(texts + " twice by " + first + " and " + second, true, x, () -> x.isTwice(0, 1, 2));
                }
            }
        }
        Orderbench x = Check.laid("5a 5b 4a");
        Check.make(x, 1, "w".concat("~".repeat(39)));
        check.asked("both together are too great", true, x, () -> x.isTwice(0, 1, 1));
        noSuch("isTwice", x, (bench, order) -> x.isTwice(bench, order, 0));
        noSuch("isTwice second", x, (bench, order) -> x.isTwice(bench, 0, order));
    }

    private static void promise32Nothings() {
        Orderbench x = Check.laid("- 3b - -");
        check.asked("three", 3, x, () -> x.nothings(0));
        check.asked("none", 0, x, () -> x.nothings(1));
        x.take(0, 0);
        check.asked("two", 2, x, () -> x.nothings(0));
        x.fill(1, 16, 7, 8);
        check.asked("sixteen", 16, x, () -> x.nothings(1));
        x.clear(1);
        check.asked("all gone", 0, x, () -> x.nothings(1));
        for (int none : Check.NO_BENCH) {
            check.thrown("nothings bench " + none, Check.NO_INDEX, x, () -> x.nothings(none));
        }
    }

    private static void noPlace(String call, Orderbench x, Asked askedAtOrderAndPlace) {
        for (int none : new int[] {-1, 7, 16, Integer.MIN_VALUE, Integer.MAX_VALUE}) {
            check.thrown(call + " place " + none, Check.NO_INDEX, x, () -> askedAtOrderAndPlace.of(0, none));
        }
    }

    private static void promise33AlikeTo() {
        Orderbench x = with("3b 2b 9a 2a 9c 2c", "w");
        check.asked("one", 1, x, () -> x.alikeTo(0, 3, 0));
        check.asked("three", 3, x, () -> x.alikeTo(0, 3, 5));
        Check.make(x, 4, "p");
        check.asked("by the parity", 3, x, () -> x.alikeTo(0, 4, 0));
        x.layNothing(0);
        check.refused("a nothing there, of a thing", x, () -> x.alikeTo(0, 3, 0));
        check.refused("a nothing there, of it", x, () -> x.alikeTo(0, 3, 6));
        Check.make(x, 5, "w[");
        check.asked("of the nothing", 1, x, () -> x.alikeTo(0, 5, 6));
        check.asked("beside the nothing", 3, x, () -> x.alikeTo(0, 5, 1));
        x.layNothing(1);
        check.refused("a nothing alone", x, () -> x.alikeTo(1, 3, 0));
        noSuch("alikeTo", x, (bench, order) -> x.alikeTo(bench, order, 0));
        noPlace("alikeTo", x, (order, place) -> x.alikeTo(0, order, place));
    }

    private static void promise34AheadOf() {
        Orderbench x = with("3b 2b 9a 2a 9c 2c", "w");
        check.asked("three", 3, x, () -> x.aheadOf(0, 3, 0));
        check.asked("none", 0, x, () -> x.aheadOf(0, 3, 5));
        check.asked("four", 4, x, () -> x.aheadOf(0, 3, 2));
        Check.make(x, 4, "w~");
        check.asked("turned", 2, x, () -> x.aheadOf(0, 4, 0));
        x.layNothing(0);
        check.refused("a nothing there, of a thing", x, () -> x.aheadOf(0, 3, 0));
        check.refused("a nothing there, of it", x, () -> x.aheadOf(0, 3, 6));
        Check.make(x, 5, "w[");
        check.asked("the nothing is ahead", 4, x, () -> x.aheadOf(0, 5, 0));
        Check.make(x, 6, "w]");
        check.asked("the nothing is behind", 6, x, () -> x.aheadOf(0, 6, 6));
        x.layNothing(1);
        check.refused("a nothing alone", x, () -> x.aheadOf(1, 3, 0));
        noSuch("aheadOf", x, (bench, order) -> x.aheadOf(bench, order, 0));
        noPlace("aheadOf", x, (order, place) -> x.aheadOf(0, order, place));
    }
}
