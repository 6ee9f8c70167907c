/** Promises 1 to 10: a new object, and what is done to benches. */
public final class BenchesTest {
    private static final Check check = new Check();

    public static void main(String[] args) {
        promise1ANewObject();
        promise2Lay();
        promise2LayTellsEachThingApart();
        promise3LayNothing();
        promise4Fill();
        promise4FillAtItsEdges();
        promise5Take();
        promise6Swap();
        promise7Clear();
        promise8Copy();
        promise9Sort();
        promise9SortKeepsTheSequenceOfAlikeOnes();
        promise9SortWithNothings();
        promise10Reverse();
        check.finish("BenchesTest");
    }

    private static void promise1ANewObject() {
        Orderbench x = Check.fresh();
        for (int bench = 0; bench < 2; bench++) {
            check.due("size", 0, x.size(bench));
            check.due("text", "", x.text(bench));
        }
        for (int order = 0; order < 10; order++) {
            check.due("shape", "w", x.shape(order));
        }
        for (int what = 0; what < 6; what++) {
            check.due("house " + what, 0, x.house(what));
        }
        Orderbench other = Check.fresh();
        other.lay(0, 1, 1);
        other.base(0, 1);
        check.due("another object's lay", "", x.text(0));
        check.due("another object's base", "w", x.shape(0));
    }

    private static void promise2Lay() {
        Orderbench x = Check.fresh();
        check.due("lay 0", 0, x.lay(0, 0, 0));
        check.due("lay 1", 1, x.lay(1, 9, 5));
        check.due("lay 2", 2, x.lay(0, 3, 1));
        check.due("text 0", "0a#0 3b#2", x.text(0));
        check.due("text 1", "9f#1", x.text(1));
        for (int none : Check.NO_BENCH) {
            check.thrown("lay bench " + none, Check.NO_INDEX, x, () -> x.lay(none, 10, 6));
        }
        for (int[] none : Check.NO_THING) {
            check.thrown("lay wrong", Check.NO_ARGUMENT, x, () -> x.lay(0, none[0], none[1]));
        }
        for (int k = 2; k < 16; k++) {
            check.due("lay to 16", k + 1, x.lay(0, 1, 1));
        }
        check.thrown("lay of a full bench", Check.NO_STATE, x, () -> x.lay(0, 1, 1));
        check.thrown("lay wrong of a full bench", Check.NO_ARGUMENT, x, () -> x.lay(0, 10, 1));
        check.due("lay on the other", 17, x.lay(1, 1, 1));
        x.take(0, 0);
        check.due("a number is not used again", 18, x.lay(0, 1, 2));
        x.clear(0);
        check.due("nor after clear", 19, x.lay(0, 1, 2));
    }

    private static void promise2LayTellsEachThingApart() {
        for (int weight = 0; weight < 10; weight++) {
            for (int letter = 0; letter < 6; letter++) {
                Orderbench x = Check.fresh();
                x.lay(0, weight, letter);
                x.lay(0, weight, letter);
                char sign = (char) ('a' + letter);
                check.due("its text", weight + "" + sign + "#0 " + weight + sign + "#1", x.text(0));
                check.due("no nothings", 0, x.nothings(0));
            }
        }
    }

    private static void promise3LayNothing() {
        Orderbench x = Check.fresh();
        check.due("first", 1, x.layNothing(0));
        check.due("second", 2, x.layNothing(0));
        check.due("other bench", 1, x.layNothing(1));
        check.due("text", "- -", x.text(0));
        check.due("no number is used", 0, x.lay(0, 1, 0));
        check.due("nothing is laid as a thing", 1, x.house(1));
        for (int none : Check.NO_BENCH) {
            check.thrown("layNothing bench " + none, Check.NO_INDEX, x, () -> x.layNothing(none));
        }
        for (int k = 3; k < 16; k++) {
            check.due("to 16", k + 1, x.layNothing(0));
        }
        check.thrown("a full bench", Check.NO_STATE, x, () -> x.layNothing(0));
    }

    private static void promise4Fill() {
        Orderbench x = Check.fresh();
        check.due("fill", 16, x.fill(0, 16, 3, 7));
        check.due("text", "3d#0 0e#1 7f#2 4a#3 - 8c#4 5d#5 2e#6 9f#7 6a#8 3b#9 0c#10 - 4e#11 1f#12 8a#13", x.text(0));
        check.due("laid", 14, x.house(1));
        check.due("fill more", 3, x.fill(1, 3, 99, 99));
        check.due("behind", 5, x.fill(1, 2, 7, 0));
        check.due("text of more", "9d#14 8a#15 7d#16 - -", x.text(1));
        check.due("the sixteenth of the greatest", 16, Check.fresh().fill(0, 16, 99, 99));
    }

    private static void promise4FillAtItsEdges() {
        Orderbench x = Check.fresh();
        check.due("none", 0, x.fill(0, 0, 0, 0));
        check.due("one", 1, x.fill(0, 1, 0, 99));
        for (int none : Check.NO_BENCH) {
            check.thrown("fill bench " + none, Check.NO_INDEX, x, () -> x.fill(none, 17, 100, -1));
        }
        for (int wrong : new int[] {-1, 17, Integer.MIN_VALUE, Integer.MAX_VALUE}) {
            check.thrown("fill many " + wrong, Check.NO_ARGUMENT, x, () -> x.fill(0, wrong, 0, 0));
        }
        for (int wrong : new int[] {-1, 100, Integer.MIN_VALUE, Integer.MAX_VALUE}) {
            check.thrown("fill from " + wrong, Check.NO_ARGUMENT, x, () -> x.fill(0, 1, wrong, 0));
            check.thrown("fill by " + wrong, Check.NO_ARGUMENT, x, () -> x.fill(0, 1, 0, wrong));
            check.thrown("fill by, too many " + wrong, Check.NO_ARGUMENT, x, () -> x.fill(0, 16, 0, wrong));
        }
        check.thrown("too many", Check.NO_STATE, x, () -> x.fill(0, 16, 0, 1));
        check.due("up to 16", 16, x.fill(0, 15, 0, 1));
        check.due("none on a full bench", 16, x.fill(0, 0, 99, 99));
        check.thrown("one more", Check.NO_STATE, x, () -> x.fill(0, 1, 7, 0));
    }

    private static void promise5Take() {
        Orderbench x = Check.laid("3b - 1c 2d");
        check.due("the first", "3b#0", x.take(0, 0));
        check.due("moved up", "- 1c#1 2d#2", x.text(0));
        check.due("a nothing", "-", x.take(0, 0));
        check.due("the last", "2d#2", x.take(0, 1));
        check.due("left", "1c#1", x.text(0));
        check.due("its size", 1, x.size(0));
        for (int none : Check.NO_BENCH) {
            check.thrown("take bench " + none, Check.NO_INDEX, x, () -> x.take(none, 0));
        }
        for (int none : new int[] {-1, 1, 16, Integer.MIN_VALUE, Integer.MAX_VALUE}) {
            check.thrown("take place " + none, Check.NO_INDEX, x, () -> x.take(0, none));
        }
        check.due("the only one", "1c#1", x.take(0, 0));
        check.thrown("of an empty bench", Check.NO_INDEX, x, () -> x.take(0, 0));
        x.fill(0, 16, 0, 1);
        check.due("of a full bench", "1f#13", x.take(0, 11));
        check.due("what moved up", 15, x.size(0));
    }

    private static void promise6Swap() {
        Orderbench x = Check.laid("3b - 1c -");
        check.due("two", 1, x.swap(0, 0, 2));
        check.due("text", "1c#1 - 3b#0 -", x.text(0));
        check.due("backwards", 1, x.swap(0, 3, 0));
        check.due("text after", "- - 3b#0 1c#1", x.text(0));
        check.due("the same", 0, x.swap(0, 2, 2));
        check.due("two nothings on two places", 1, x.swap(0, 0, 1));
        check.due("text at last", "- - 3b#0 1c#1", x.text(0));
        for (int none : Check.NO_BENCH) {
            check.thrown("swap bench " + none, Check.NO_INDEX, x, () -> x.swap(none, 0, 0));
        }
        for (int none : new int[] {-1, 4, 16, Integer.MIN_VALUE, Integer.MAX_VALUE}) {
            check.thrown("swap place " + none, Check.NO_INDEX, x, () -> x.swap(0, none, 0));
            check.thrown("swap other " + none, Check.NO_INDEX, x, () -> x.swap(0, 0, none));
            check.thrown("swap both " + none, Check.NO_INDEX, x, () -> x.swap(0, none, none));
        }
    }

    private static void promise7Clear() {
        Orderbench x = Check.laid("3b - 1c");
        Check.lay(x, 1, "2a");
        check.due("clear", 3, x.clear(0));
        check.due("text", "", x.text(0));
        check.due("the other stays", "2a#2", x.text(1));
        check.due("again", 0, x.clear(0));
        for (int none : Check.NO_BENCH) {
            check.thrown("clear bench " + none, Check.NO_INDEX, x, () -> x.clear(none));
        }
        check.due("house 0", 1, x.house(0));
        check.due("house 5", 0, x.house(5));
    }

    private static void promise8Copy() {
        Orderbench x = Check.laid("3b - 1c");
        Check.lay(x, 1, "2a 2a 2a 2a 2a");
        check.due("copy", 3, x.copy(0));
        check.due("the other", "3b#0 - 1c#1", x.text(1));
        check.due("this one", "3b#0 - 1c#1", x.text(0));
        x.take(0, 0);
        check.due("they share nothing", "3b#0 - 1c#1", x.text(1));
        check.due("back", 3, x.copy(1));
        check.due("text", "3b#0 - 1c#1", x.text(0));
        x.swap(1, 0, 2);
        check.due("they share nothing, either", "3b#0 - 1c#1", x.text(0));
        check.due("nothing is laid by it", 7, x.house(1));
        for (int none : Check.NO_BENCH) {
            check.thrown("copy bench " + none, Check.NO_INDEX, x, () -> x.copy(none));
        }
        x.clear(0);
        check.due("of an empty bench", 0, x.copy(0));
        check.due("empty, too", "", x.text(1));
    }

    private static void sorted(String kinds, int due, String text) {
        Orderbench x = Check.laid("3b 4c 1a 0d 3a 8f 4c");
        Check.make(x, 3, kinds);
        check.due("sort by " + kinds, due, x.sort(0, 3));
        check.due("sorted by " + kinds, text, x.text(0));
        check.due("sorted again by " + kinds, 0, x.sort(0, 3));
        check.due("sorted twice by " + kinds, text, x.text(0));
    }

    private static void promise9Sort() {
        sorted("w", 7, "0d#3 1a#2 3b#0 3a#4 4c#1 4c#6 8f#5");
        sorted("l", 7, "1a#2 3a#4 3b#0 4c#1 4c#6 0d#3 8f#5");
        sorted("p", 7, "4c#1 0d#3 8f#5 4c#6 3b#0 1a#2 3a#4");
        sorted("n", 7, "0d#3 1a#2 3a#4 3b#0 4c#1 4c#6 8f#5");
        sorted("b", 5, "8f#5 4c#1 4c#6 3b#0 3a#4 1a#2 0d#3");
        sorted("d", 6, "3b#0 0d#3 3a#4 4c#1 1a#2 4c#6 8f#5");
        sorted("t", 7, "8f#5 0d#3 4c#1 4c#6 3b#0 1a#2 3a#4");
        Orderbench x = Check.laid("3b 1a");
        for (int none : Check.NO_BENCH) {
            check.thrown("sort bench " + none, Check.NO_INDEX, x, () -> x.sort(none, 0));
        }
        for (int none : Check.NO_ORDER) {
            check.thrown("sort order " + none, Check.NO_INDEX, x, () -> x.sort(0, none));
        }
        check.due("of an empty bench", 0, x.sort(1, 0));
    }

    private static void promise9SortKeepsTheSequenceOfAlikeOnes() {
        Orderbench x = Check.laid("5a 5b 5c 1a 5d 5e 5f 5a 5b 5c 5d 5e 5f 5a 5b 0c");
        x.sort(0, 0);
        check.due("stable", "0c#15 1a#3 5a#0 5b#1 5c#2 5d#4 5e#5 5f#6 5a#7 5b#8 5c#9 5d#10 5e#11 5f#12 5a#13 5b#14",
                x.text(0));
        x.turn(1, 0);
        x.sort(0, 1);
        check.due("stable, turned", "5a#0 5b#1 5c#2 5d#4 5e#5 5f#6 5a#7 5b#8 5c#9 5d#10 5e#11 5f#12 5a#13 5b#14 1a#3 0c#15",
                x.text(0));
    }

    private static void promise9SortWithNothings() {
        Orderbench x = Check.laid("- 3b - 1a -");
        check.refused("sort, not safe", x, () -> x.sort(0, 0));
        Check.make(x, 1, "w[");
        check.due("nothings stay", 2, x.sort(0, 1));
        check.due("first", "- - - 1a#1 3b#0", x.text(0));
        Check.make(x, 2, "w]");
        check.due("last, the middle one is like before", 4, x.sort(0, 2));
        check.due("text", "1a#1 3b#0 - - -", x.text(0));
        x.ends(3, -1, false);
        check.due("without another order", 4, x.sort(0, 3));
        check.due("things are alike", "- - - 1a#1 3b#0", x.text(0));
        Orderbench alone = Check.laid("-");
        check.due("a nothing alone is taken", 0, alone.sort(0, 0));
        check.due("not refused", 0, alone.house(3));
        Orderbench things = Check.laid("3b 1a");
        check.due("not safe, things alone", 2, things.sort(0, 0));
    }

    private static void promise10Reverse() {
        Orderbench x = Check.laid("3b - 1c 2d");
        check.due("four", 4, x.reverse(0));
        check.due("text of four", "2d#2 1c#1 - 3b#0", x.text(0));
        x.take(0, 0);
        check.due("three", 3, x.reverse(0));
        check.due("text of three", "3b#0 - 1c#1", x.text(0));
        check.due("none", 0, x.reverse(1));
        for (int none : Check.NO_BENCH) {
            check.thrown("reverse bench " + none, Check.NO_INDEX, x, () -> x.reverse(none));
        }
    }
}
