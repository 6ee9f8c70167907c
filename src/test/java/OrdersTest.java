/** Promises 11 to 15: what is done to orders. */
public final class OrdersTest {
    private static final Check check = new Check();

    public static void main(String[] args) {
        promise11Base();
        promise12Turn();
        promise13Together();
        promise13TogetherRefused();
        promise13TogetherAtTheGreatestSize();
        promise14Ends();
        promise15Keep();
        shapesDoNotChange();
        sameTextOtherShape();
        check.finish("OrdersTest");
    }

    private static void promise11Base() {
        Orderbench x = Check.fresh();
        String signs = "wlpnbdt";
        for (int kind = 0; kind < 7; kind++) {
            check.due("base " + kind, 1, x.base(4, kind));
            check.due("shape " + kind, signs.substring(kind, kind + 1), x.shape(4));
            check.due("others stay", "w", x.shape(5));
        }
        x.together(4, 4, 4);
        check.due("the size that it had", 5, x.base(4, 1));
        check.due("the size of that", 1, x.base(4, 1));
        x.ends(3, 3, true);
        check.due("a safe one's size", 2, x.base(3, 2));
        check.due("not safe any more", false, x.isSafe(3));
        for (int none : Check.NO_ORDER) {
            check.thrown("base order " + none, Check.NO_INDEX, x, () -> x.base(none, 7));
        }
        for (int wrong : new int[] {-1, 7, Integer.MIN_VALUE, Integer.MAX_VALUE}) {
            check.thrown("base kind " + wrong, Check.NO_ARGUMENT, x, () -> x.base(4, wrong));
        }
    }

    private static void promise12Turn() {
        Orderbench x = Check.fresh();
        x.base(1, 1);
        check.due("turn", 2, x.turn(0, 1));
        check.due("shape", "l~", x.shape(0));
        check.due("the other stays", "l", x.shape(1));
        check.due("itself", 3, x.turn(0, 0));
        check.due("twice", "l~~", x.shape(0));
        for (int none : Check.NO_ORDER) {
            check.thrown("turn order " + none, Check.NO_INDEX, x, () -> x.turn(none, 0));
            check.thrown("turn of " + none, Check.NO_INDEX, x, () -> x.turn(0, none));
        }
        for (int size = 4; size <= 40; size++) {
            check.due("to 40", size, x.turn(0, 0));
        }
        check.due("its text", "l".concat("~".repeat(39)), x.shape(0));
        check.thrown("above 40", Check.NO_STATE, x, () -> x.turn(0, 0));
        check.thrown("another one above 40", Check.NO_STATE, x, () -> x.turn(2, 0));
        check.thrown("no order goes ahead", Check.NO_INDEX, x, () -> x.turn(10, 0));
        Check.lay(x, 0, "3b 1a 3a");
        check.due("39 times turned", 1, x.compare(0, 0, 1, 0));
        check.due("sorted by the deepest", 0, x.sort(0, 0));
        check.due("sound with the deepest", true, x.isSound());
    }

    private static void promise13Together() {
        Orderbench x = Check.fresh();
        x.base(1, 1);
        check.due("together", 5, x.together(2, 0, 1));
        check.due("shape", "(w l)", x.shape(2));
        check.due("the first stays", "w", x.shape(0));
        check.due("the second stays", "l", x.shape(1));
        check.due("with itself", 13, x.together(2, 2, 2));
        check.due("shape of itself", "((w l) (w l))", x.shape(2));
        check.due("as the second", 17, x.together(2, 1, 2));
        check.due("its shape", "(l ((w l) (w l)))", x.shape(2));
        for (int none : Check.NO_ORDER) {
            check.thrown("together order " + none, Check.NO_INDEX, x, () -> x.together(none, 0, 1));
            check.thrown("together first " + none, Check.NO_INDEX, x, () -> x.together(0, none, 1));
            check.thrown("together second " + none, Check.NO_INDEX, x, () -> x.together(0, 0, none));
        }
    }

    private static void promise13TogetherRefused() {
        Orderbench x = Check.fresh();
        Check.make(x, 1, "w[");
        check.refused("a safe first, a second that is not", x, () -> x.together(2, 1, 0));
        check.due("the other way round", 6, x.together(2, 0, 1));
        check.due("is not safe", false, x.isSafe(2));
        check.refused("that as a second one", x, () -> x.together(3, 1, 2));
        check.due("that as a first one", 10, x.together(3, 2, 0));
        check.due("both safe", 7, x.together(4, 1, 1));
        check.due("is safe", true, x.isSafe(4));
        check.due("neither safe", 5, x.together(5, 0, 0));
        check.thrown("no first goes ahead", Check.NO_INDEX, x, () -> x.together(10, 1, 0));
    }

    private static void promise13TogetherAtTheGreatestSize() {
        Orderbench x = Check.fresh();
        x.together(0, 0, 0);
        x.together(0, 0, 0);
        x.together(0, 0, 0);
        check.due("29", 29, x.shape(0).length());
        x.base(1, 0);
        x.together(2, 1, 1);
        x.turn(2, 2);
        x.turn(2, 2);
        x.turn(2, 2);
        check.due("8", 8, x.shape(2).length());
        check.due("40", 40, x.together(3, 0, 2));
        check.due("its text has 40", 40, x.shape(3).length());
        x.turn(2, 2);
        check.thrown("41", Check.NO_STATE, x, () -> x.together(4, 0, 2));
        Check.make(x, 2, "[");
        check.thrown("above 40, not refused", Check.NO_STATE, x, () -> x.together(4, 2, 0));
        check.thrown("58 and 3", Check.NO_STATE, x, () -> x.together(0, 0, 0));
    }

    private static void promise14Ends() {
        Orderbench x = Check.fresh();
        x.base(1, 1);
        check.due("first of another", 2, x.ends(0, 1, false));
        check.due("shape", "[l", x.shape(0));
        check.due("last of itself", 3, x.ends(0, 0, true));
        check.due("its shape", "][l", x.shape(0));
        check.due("the other stays", "l", x.shape(1));
        check.due("none, first", 1, x.ends(2, -1, false));
        check.due("its text", "[", x.shape(2));
        check.due("none, last", 1, x.ends(3, -1, true));
        check.due("its text", "]", x.shape(3));
        check.due("of those", 2, x.ends(3, 2, true));
        check.due("its text", "][", x.shape(3));
        for (int none : Check.NO_ORDER) {
            check.thrown("ends order " + none, Check.NO_INDEX, x, () -> x.ends(none, 0, true));
            if (none != -1) {
                check.thrown("ends of " + none, Check.NO_INDEX, x, () -> x.ends(0, none, false));
            }
        }
        check.thrown("ends order, NONE", Check.NO_INDEX, x, () -> x.ends(10, -1, true));
        for (int size = 4; size <= 40; size++) {
            check.due("to 40", size, x.ends(0, 0, size % 2 == 0));
        }
        check.thrown("above 40, first", Check.NO_STATE, x, () -> x.ends(0, 0, false));
        check.thrown("above 40, last", Check.NO_STATE, x, () -> x.ends(5, 0, true));
        check.due("NONE after 40", 1, x.ends(0, -1, true));
    }

    private static void promise15Keep() {
        Orderbench x = Check.fresh();
        Check.make(x, 1, "l~[");
        check.due("keep", 3, x.keep(0, 1));
        check.due("shape", "[l~", x.shape(0));
        check.due("safe", true, x.isSafe(0));
        check.due("the other stays", "[l~", x.shape(1));
        check.due("itself", 3, x.keep(0, 0));
        x.base(1, 2);
        check.due("it does not follow the other", "[l~", x.shape(0));
        for (int none : Check.NO_ORDER) {
            check.thrown("keep order " + none, Check.NO_INDEX, x, () -> x.keep(none, 0));
            check.thrown("keep of " + none, Check.NO_INDEX, x, () -> x.keep(0, none));
        }
    }

    private static void shapesDoNotChange() {
        Orderbench x = Check.laid("3b 1c");
        x.turn(1, 0);
        x.together(2, 0, 1);
        x.ends(3, 2, true);
        x.base(0, 1);
        x.base(1, 2);
        x.base(2, 3);
        check.due("shape 3", "](w w~)", x.shape(3));
        check.due("it tells as before", 1, x.compare(3, 0, 0, 1));
    }

    private static void sameTextOtherShape() {
        Orderbench x = Check.laid("3b -");
        Check.make(x, 1, "w~[");
        Check.make(x, 2, "w[~");
        check.due("text of one", "[w~", x.shape(1));
        check.due("text of the other", "[w~", x.shape(2));
        check.due("nothing first of a turned one", 1, x.compare(1, 0, 0, 1));
        check.due("turned of nothing first", -1, x.compare(2, 0, 0, 1));
    }
}
