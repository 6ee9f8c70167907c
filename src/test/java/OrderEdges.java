/** The boundaries of promises 11 to 21. */
final class OrderEdges {
    private static final String UNLIKE_16 = "0a 0b 1a 1b 2a 2b 3a 3b 4a 4b 5a 5b 6a 6b 7a 7b";
    private static final String NOTHINGS_16 = "- ".repeat(16);

    private OrderEdges() {
    }

    /** The ORDER 3 has the SIZE 40 and is not SAFE, the ORDER 4 has it and is SAFE. */
    private static Orderbench greatest() {
        Orderbench x = Check.with("", Check.unsafeOf(40));
        Check.make(x, 4, Check.safeOf(40));
        return x;
    }

    private static Orderbench three() {
        return Check.laid("3b 2c 1a");
    }

    /** The BENCHES 0 and 1 have two PLACES and one. */
    private static Orderbench twoAndOne() {
        return Check.lay(Check.laid("3b 1a"), 1, "5f");
    }

    // ---- promise 11

    @Sentence(promise = 11, words = "An ORDER becomes a BASE.")
    static void baseOfOneThatWasSafe(Check check) {
        Orderbench x = Check.with("- 3b", "w[");
        check.due("its size before", 2, x.base(3, 1));
        check.due("its shape", "l", x.shape(3));
        check.due("it is not safe any more", false, x.isSafe(3));
        check.refused("it takes no nothing any more", x, () -> x.compare(3, 0, 0, 1));
        check.due("the same base again", 1, x.base(3, 1));
        check.due("its shape again", "l", x.shape(3));
        check.due("the others stay", "w", x.shape(2));
    }

    @Sentence(promise = 11, words = "Returns the SIZE that it had.")
    static void baseTellsTheSizeBefore(Check check) {
        check.due("at first", 1, Check.fresh().base(0, 6));
        check.due("of two", 2, Check.with("", "w~").base(3, 0));
        check.due("of 40, not safe", 40, greatest().base(3, 0));
        check.due("of 40, safe", 40, greatest().base(4, 0));
        check.due("without an o", 1, Check.with("", ">").base(3, 0));
    }

    @Sentence(promise = 11, words = "if there is no such ORDER")
    static void baseOfNoOrder(Check check) {
        check.bounds("base order", 0, 1, 9, 1, Check.NO_INDEX, Check::fresh, (x, order) -> x.base(order, 1));
    }

    @Sentence(promise = 11, words = "0 \"w\", 1 \"l\", 2 \"p\", 3 \"n\", 4 \"b\", 5 \"d\", 6 \"t\"")
    static void baseOfEachKind(Check check) {
        for (int order = 0; order < 10; order++) {
            Orderbench x = Check.fresh();
            for (int kind = 0; kind <= 6; kind++) {
                check.due("base", 1, x.base(order, kind));
                check.due("shape of kind " + kind, "wlpnbdt".substring(kind, kind + 1), x.shape(order));
            }
        }
    }

    @Sentence(promise = 11, words = "if kind is not 0 to 6")
    static void baseOfNoKind(Check check) {
        check.bounds("base kind", 0, 1, 6, 1, Check.NO_ARGUMENT, Check::fresh, (x, kind) -> x.base(0, kind));
        check.bounds("base of a great one, kind", 0, 40, 6, 40, Check.NO_ARGUMENT, OrderEdges::greatest,
                (x, kind) -> x.base(4, kind));
    }

    @Sentence(promise = 11, words = "Throws `IndexOutOfBoundsException` if there is no such ORDER")
    static void baseTheFirstNamedException(Check check) {
        Orderbench x = Check.fresh();
        check.thrown("order ahead of kind", Check.NO_INDEX, x, () -> x.base(10, 7));
        check.thrown("order ahead of kind", Check.NO_INDEX, x, () -> x.base(-1, -1));
    }

    // ---- promise 12

    @Sentence(promise = 12, words = "An ORDER becomes another one (or itself), TURNED.")
    static void turnAnotherOneAndItself(Check check) {
        Orderbench x = Check.with("3b 1a", "n");
        check.due("another one", 2, x.turn(0, 3));
        check.due("its shape", "n~", x.shape(0));
        check.due("the other one's shape", "n", x.shape(3));
        check.due("it tells", -1, x.compare(0, 0, 0, 1));
        check.due("itself", 2, x.turn(3, 3));
        check.due("its shape", "n~", x.shape(3));
        check.due("itself again", 3, x.turn(3, 3));
        check.due("its shape", "n~~", x.shape(3));
        check.due("it tells as at first", 1, x.compare(3, 0, 0, 1));
    }

    @Sentence(promise = 12, words = "Returns its SIZE then.")
    static void turnTellsTheSize(Check check) {
        check.due("the least", 2, Check.fresh().turn(9, 0));
        check.due("of a safe one without an o", 2, Check.with("", "<").turn(0, 3));
        for (int size = 1; size < 40; size++) {
            check.due("of " + size, size + 1, Check.with("", Check.unsafeOf(size)).turn(0, 3));
        }
    }

    @Sentence(promise = 12, words = "if there is no such ORDER (both)")
    static void turnNoOrder(Check check) {
        check.bounds("turn order", 0, 2, 9, 2, Check.NO_INDEX, Check::fresh, (x, order) -> x.turn(order, 4));
    }

    @Sentence(promise = 12, words = "if there is no such ORDER (both)")
    static void turnOfNoOrder(Check check) {
        check.bounds("turn of", 0, 2, 9, 2, Check.NO_INDEX, Check::fresh, (x, of) -> x.turn(4, of));
    }

    @Sentence(promise = 12, words = "if its SIZE would be above 40")
    static void turnUpTo40And41(Check check) {
        check.due("40, not safe", 40, Check.with("", Check.unsafeOf(39)).turn(3, 3));
        check.due("40, safe", 40, Check.with("", Check.safeOf(39)).turn(3, 3));
        Orderbench x = greatest();
        check.thrown("41, not safe", Check.NO_STATE, x, () -> x.turn(3, 3));
        check.thrown("41, safe", Check.NO_STATE, x, () -> x.turn(4, 4));
        check.thrown("41 of another one", Check.NO_STATE, x, () -> x.turn(0, 3));
        check.due("a great one becomes a small one", 2, x.turn(3, 0));
    }

    @Sentence(promise = 12, words = "Throws `IndexOutOfBoundsException` if there is no such ORDER (both)")
    static void turnTheFirstNamedException(Check check) {
        Orderbench x = greatest();
        check.thrown("order ahead of size", Check.NO_INDEX, x, () -> x.turn(10, 3));
        check.thrown("order ahead of size", Check.NO_INDEX, x, () -> x.turn(-1, 4));
    }

    // ---- promise 13

    @Sentence(promise = 13, words = "An ORDER becomes two TOGETHER.")
    static void togetherOfItself(Check check) {
        Orderbench x = Check.with("3b 3a 1c", "l");
        check.due("itself first", 5, x.together(0, 0, 3));
        check.due("its shape", "(w l)", x.shape(0));
        check.due("itself second", 9, x.together(0, 3, 0));
        check.due("its shape", "(l (w l))", x.shape(0));
        check.due("itself twice", 21, x.together(0, 0, 0));
        check.due("its shape", "((l (w l)) (l (w l)))", x.shape(0));
        check.due("it tells", 1, x.compare(0, 0, 0, 1));
        check.due("another one twice", 5, x.together(4, 3, 3));
        check.due("its shape", "(l l)", x.shape(4));
        check.due("the other one stays", "l", x.shape(3));
    }

    @Sentence(promise = 13, words = "Returns its SIZE then")
    static void togetherTellsTheSize(Check check) {
        check.due("the least", 5, Check.fresh().together(9, 0, 1));
        check.due("of 2 and 1", 6, Check.with("", "w~").together(0, 3, 1));
        check.due("of 1 and 2", 6, Check.with("", "w~").together(0, 1, 3));
        check.due("safe ones", 5, Check.with("", ">").together(3, 3, 3));
    }

    @Sentence(promise = 13, words = "REFUSED if the first one is SAFE, and the second one is not.")
    static void togetherRefused(Check check) {
        String[] unsafe = {"w", "n~"};
        String[] safe = {"<", ">", "w[", "d]~"};
        for (String one : unsafe) {
            for (String other : safe) {
                Orderbench x = Check.with("", one);
                Check.make(x, 4, other);
                check.refused("safe and not", x, () -> x.together(5, 4, 3));
                check.refused("safe and not, as the first", x, () -> x.together(4, 4, 3));
                check.refused("safe and not, as the second", x, () -> x.together(3, 4, 3));
                check.due("not and safe", one.length() + other.length() + 3, x.together(5, 3, 4));
                check.due("that is not safe", false, x.isSafe(5));
                check.refused("safe and one of both kinds", x, () -> x.together(6, 4, 5));
                check.due("safe and safe", 2 * other.length() + 3, x.together(6, 4, 4));
                check.due("that is safe", true, x.isSafe(6));
                check.due("not and not", 2 * one.length() + 3, x.together(7, 3, 3));
                check.due("that is not safe", false, x.isSafe(7));
            }
        }
    }

    @Sentence(promise = 13, words = "if there is no such ORDER (all three)")
    static void togetherNoOrder(Check check) {
        check.bounds("together order", 0, 5, 9, 5, Check.NO_INDEX, Check::fresh, (x, order) -> x.together(order, 4, 5));
    }

    @Sentence(promise = 13, words = "if there is no such ORDER (all three)")
    static void togetherNoFirst(Check check) {
        check.bounds("together first", 0, 5, 9, 5, Check.NO_INDEX, Check::fresh, (x, first) -> x.together(4, first, 5));
    }

    @Sentence(promise = 13, words = "if there is no such ORDER (all three)")
    static void togetherNoSecond(Check check) {
        check.bounds("together second", 0, 5, 9, 5, Check.NO_INDEX, Check::fresh, (x, second) -> x.together(4, 5, second));
    }

    @Sentence(promise = 13, words = "if its SIZE would be above 40")
    static void togetherUpTo40And41(Check check) {
        for (int first = 1; first <= 36; first++) {
            Orderbench x = Check.with("", Check.unsafeOf(first));
            Check.make(x, 4, Check.unsafeOf(37 - first));
            check.due(first + " and " + (37 - first), 40, x.together(5, 3, 4));
            check.due("its text", 40, x.shape(5).length());
            x.turn(4, 4);
            check.thrown(first + " and " + (38 - first), Check.NO_STATE, x, () -> x.together(6, 3, 4));
        }
        Orderbench x = greatest();
        check.thrown("40 and 40", Check.NO_STATE, x, () -> x.together(3, 3, 3));
        check.thrown("40 and 40, safe", Check.NO_STATE, x, () -> x.together(4, 4, 4));
        check.thrown("40 and 1", Check.NO_STATE, x, () -> x.together(0, 3, 0));
        check.thrown("1 and 40", Check.NO_STATE, x, () -> x.together(0, 0, 3));
    }

    @Sentence(promise = 13, words = "Throws `IllegalStateException` if its SIZE would be above 40")
    static void togetherAbove40GoesAheadOfRefused(Check check) {
        Orderbench x = Check.with("", Check.safeOf(36));
        check.refused("36 and 1, safe and not", x, () -> x.together(5, 3, 0));
        x.turn(3, 3);
        check.thrown("37 and 1, safe and not", Check.NO_STATE, x, () -> x.together(5, 3, 0));
        Orderbench y = greatest();
        check.thrown("order ahead of size", Check.NO_INDEX, y, () -> y.together(10, 4, 3));
        check.thrown("first ahead of size", Check.NO_INDEX, y, () -> y.together(0, -1, 3));
        check.thrown("second ahead of size", Check.NO_INDEX, y, () -> y.together(0, 4, 10));
    }

    // ---- promise 14

    @Sentence(promise = 14, words = "An ORDER becomes NOTHING FIRST or NOTHING LAST of another one.")
    static void endsOfAnotherOneAndItself(Check check) {
        Orderbench x = Check.with("- 3b", "l");
        check.due("first of another one", 2, x.ends(0, 3, false));
        check.due("its shape", "[l", x.shape(0));
        check.due("it tells", -1, x.compare(0, 0, 0, 1));
        check.due("the other one stays", "l", x.shape(3));
        check.due("last of another one", 2, x.ends(0, 3, true));
        check.due("its shape", "]l", x.shape(0));
        check.due("it tells", 1, x.compare(0, 0, 0, 1));
        check.due("first of itself", 3, x.ends(0, 0, false));
        check.due("its shape", "[]l", x.shape(0));
        check.due("last of itself", 4, x.ends(0, 0, true));
        check.due("its shape", "][]l", x.shape(0));
        check.due("it tells", 1, x.compare(0, 0, 0, 1));
    }

    @Sentence(promise = 14, words = "the other one (or itself); NONE for none")
    static void endsOfNone(Check check) {
        Orderbench x = greatest();
        check.due("first of none, in the place of 40", 1, x.ends(3, -1, false));
        check.due("its shape", "[", x.shape(3));
        check.due("it is safe", true, x.isSafe(3));
        check.due("last of none, in the place of 40", 1, x.ends(4, -1, true));
        check.due("its shape", "]", x.shape(4));
        check.due("on order 0", 1, x.ends(0, -1, true));
        check.due("on order 9", 1, x.ends(9, -1, true));
    }

    @Sentence(promise = 14, words = "Returns its SIZE then.")
    static void endsTellsTheSize(Check check) {
        for (int size = 1; size < 40; size++) {
            check.due("first of " + size, size + 1, Check.with("", Check.unsafeOf(size)).ends(0, 3, false));
            check.due("last of " + size, size + 1, Check.with("", Check.safeOf(size)).ends(3, 3, true));
        }
    }

    @Sentence(promise = 14, words = "if there is no such ORDER (of both, but NONE)")
    static void endsNoOrder(Check check) {
        check.bounds("ends order", 0, 2, 9, 2, Check.NO_INDEX, Check::fresh, (x, order) -> x.ends(order, 4, false));
        check.bounds("ends order of NONE", 0, 1, 9, 1, Check.NO_INDEX, Check::fresh, (x, order) -> x.ends(order, -1, true));
    }

    @Sentence(promise = 14, words = "if there is no such ORDER (of both, but NONE)")
    static void endsOfNoOrder(Check check) {
        check.bounds("ends first of", -1, 1, 9, 2, Check.NO_INDEX, Check::fresh, (x, of) -> x.ends(4, of, false));
        check.bounds("ends last of", -1, 1, 9, 2, Check.NO_INDEX, Check::fresh, (x, of) -> x.ends(4, of, true));
        check.taken("ends first of", 0, 2, Check::fresh, (x, of) -> x.ends(4, of, false));
        check.taken("ends last of", 0, 2, Check::fresh, (x, of) -> x.ends(4, of, true));
    }

    @Sentence(promise = 14, words = "if its SIZE would be above 40")
    static void endsUpTo40And41(Check check) {
        for (boolean isLast : new boolean[] {false, true}) {
            check.due("40, of one not safe", 40, Check.with("", Check.unsafeOf(39)).ends(3, 3, isLast));
            check.due("40, of a safe one", 40, Check.with("", Check.safeOf(39)).ends(3, 3, isLast));
            Orderbench x = greatest();
            check.thrown("41, of one not safe", Check.NO_STATE, x, () -> x.ends(3, 3, isLast));
            check.thrown("41, of a safe one", Check.NO_STATE, x, () -> x.ends(4, 4, isLast));
            check.thrown("41, in another one", Check.NO_STATE, x, () -> x.ends(0, 3, isLast));
            check.due("a great one becomes a small one", 2, x.ends(3, 0, isLast));
        }
    }

    @Sentence(promise = 14, words = "Throws `IndexOutOfBoundsException` if there is no such ORDER (of both, but NONE)")
    static void endsTheFirstNamedException(Check check) {
        Orderbench x = greatest();
        check.thrown("order ahead of size", Check.NO_INDEX, x, () -> x.ends(10, 3, false));
        check.thrown("order ahead of size", Check.NO_INDEX, x, () -> x.ends(-1, 4, true));
    }

    // ---- promise 15

    @Sentence(promise = 15, words = "An ORDER becomes as another one is.")
    static void keepAnotherOneAndItself(Check check) {
        Orderbench x = Check.with("- 3b", "w[~");
        check.due("keep", 3, x.keep(5, 3));
        check.due("its shape", "[w~", x.shape(5));
        check.due("it is safe", true, x.isSafe(5));
        check.due("it tells as the other one", 1, x.compare(5, 0, 0, 1));
        check.asked("itself", 3, x, () -> x.keep(5, 5));
        x.base(3, 0);
        check.due("it does not follow", "[w~", x.shape(5));
        check.due("back to one that is not safe", 1, x.keep(5, 3));
        check.due("it is not safe", false, x.isSafe(5));
    }

    @Sentence(promise = 15, words = "Returns its SIZE then.")
    static void keepTellsTheSize(Check check) {
        check.due("the least", 1, greatest().keep(3, 0));
        check.due("the greatest", 40, greatest().keep(0, 3));
        check.due("the greatest, safe", 40, greatest().keep(3, 4));
        check.due("its text", 40, greatest().shape(4).length());
    }

    @Sentence(promise = 15, words = "if there is no such ORDER (both)")
    static void keepNoOrder(Check check) {
        check.bounds("keep order", 0, 40, 9, 40, Check.NO_INDEX, OrderEdges::greatest, (x, order) -> x.keep(order, 3));
    }

    @Sentence(promise = 15, words = "if there is no such ORDER (both)")
    static void keepOfNoOrder(Check check) {
        check.bounds("keep of", 0, 1, 9, 1, Check.NO_INDEX, OrderEdges::greatest, (x, of) -> x.keep(3, of));
    }

    // ---- promise 16

    @Sentence(promise = 16, words = "Returns its text.")
    static void shapeOfTheLeastAndTheGreatest(Check check) {
        Orderbench x = greatest();
        check.asked("of 1", "w", x, () -> x.shape(0));
        check.asked("of 40, not safe", "w".concat("~".repeat(39)), x, () -> x.shape(3));
        check.asked("of 40, safe", "[".concat("~".repeat(39)), x, () -> x.shape(4));
        Check.make(x, 5, "w".concat("]".repeat(39)));
        check.asked("of 40, last", "]".repeat(39).concat("w"), x, () -> x.shape(5));
        x.ends(6, -1, true);
        check.asked("without an o", "]", x, () -> x.shape(6));
    }

    @Sentence(promise = 16, words = "Returns its text.")
    static void shapeOfTheDeepestTogether(Check check) {
        Orderbench x = Check.fresh();
        StringBuilder first = new StringBuilder("w");
        StringBuilder second = new StringBuilder("w");
        for (int k = 0; k < 9; k++) {
            x.together(1, 1, 0);
            x.together(2, 0, 2);
            first.insert(0, '(').append(" w)");
            second.insert(0, "(w ").append(')');
        }
        check.due("deep in the first", first.toString(), x.shape(1));
        check.due("deep in the second", second.toString(), x.shape(2));
        for (int size = 38; size <= 40; size++) {
            check.due("the first one turned", size, x.turn(1, 1));
            check.due("the second one's end", size, x.ends(2, 2, true));
        }
        check.due("of 40 in the first", first.append("~~~").toString(), x.shape(1));
        check.due("of 40 in the second", second.insert(0, "]]]").toString(), x.shape(2));
    }

    @Sentence(promise = 16, words = "if there is no such ORDER")
    static void shapeOfNoOrder(Check check) {
        check.bounds("shape", 0, "w", 9, "w", Check.NO_INDEX, Check::fresh, (x, order) -> x.shape(order));
    }

    // ---- promise 17

    @Sentence(promise = 17, words = "Returns whether it is SAFE.")
    static void isSafeOfTheLeastAndTheGreatest(Check check) {
        Orderbench x = greatest();
        check.asked("the least, not safe", false, x, () -> x.isSafe(0));
        check.asked("the greatest, not safe", false, x, () -> x.isSafe(3));
        check.asked("the greatest, safe", true, x, () -> x.isSafe(4));
        x.ends(5, -1, true);
        check.asked("the least, safe", true, x, () -> x.isSafe(5));
    }

    @Sentence(promise = 17, words = "if there is no such ORDER")
    static void isSafeOfNoOrder(Check check) {
        check.bounds("isSafe", 0, false, 9, false, Check.NO_INDEX, Check::fresh, (x, order) -> x.isSafe(order));
    }

    // ---- promise 18

    @Sentence(promise = 18, words = "Returns what the ORDER tells of what lies there")
    static void compareOnOneAndSixteenPlaces(Check check) {
        Orderbench x = Check.with(UNLIKE_16, "n");
        check.asked("the first and the last", -1, x, () -> x.compare(3, 0, 0, 15));
        check.asked("the last and the first", 1, x, () -> x.compare(3, 0, 15, 0));
        check.asked("neighbours alike by weight", 0, x, () -> x.compare(0, 0, 14, 15));
        for (int place = 0; place < 16; place++) {
            int same = place;
            check.due("one and itself", 0, x.compare(3, 0, same, same));
        }
        Orderbench one = Check.laid("9f");
        check.asked("the only one and itself", 0, one, () -> one.compare(0, 0, 0, 0));
    }

    @Sentence(promise = 18, words = "another one, or the same")
    static void compareOneWithItself(Check check) {
        for (String steps : "w l p n b d t w~ w[ w] < >".split(" ")) {
            Orderbench x = Check.with("3b -", steps);
            check.asked("a thing by " + steps, 0, x, () -> x.compare(3, 0, 0, 0));
            check.answers("a nothing by " + steps, x.isSafe(3) ? 0 : -9, x, () -> x.compare(3, 0, 1, 1));
        }
    }

    @Sentence(promise = 18, words = "REFUSED if it does not take these.")
    static void compareRefused(Check check) {
        Orderbench x = Check.with("- 3b - 1a", "b~");
        check.refused("a nothing and a thing", x, () -> x.compare(3, 0, 0, 1));
        check.refused("a thing and a nothing", x, () -> x.compare(3, 0, 1, 0));
        check.refused("two nothings", x, () -> x.compare(3, 0, 0, 2));
        check.refused("a nothing and itself", x, () -> x.compare(3, 0, 0, 0));
        check.asked("things beside which nothings lie", 1, x, () -> x.compare(3, 0, 1, 3));
        Orderbench alone = Check.laid("-");
        check.refused("a nothing that lies alone", alone, () -> alone.compare(0, 0, 0, 0));
    }

    @Sentence(promise = 18, words = "REFUSED if it does not take these.")
    static void compareBySafeOnesIsNotRefused(Check check) {
        for (String steps : "w[ w] < > w[~".split(" ")) {
            Orderbench x = Check.with("- 3b -", steps);
            check.due("a nothing and a thing", true, x.compare(3, 0, 0, 1) != 0 && x.compare(3, 0, 0, 1) != -9);
            check.asked("two nothings", 0, x, () -> x.compare(3, 0, 0, 2));
            check.due("none was refused", 0, x.house(3));
        }
    }

    @Sentence(promise = 18, words = "if there is no such ORDER, BENCH or PLACE (both)")
    static void compareByNoOrder(Check check) {
        check.bounds("compare order", 0, 1, 9, 1, Check.NO_INDEX, OrderEdges::twoAndOne,
                (x, order) -> x.compare(order, 0, 0, 1));
    }

    @Sentence(promise = 18, words = "if there is no such ORDER, BENCH or PLACE (both)")
    static void compareOnNoBench(Check check) {
        check.bounds("compare bench", 0, 0, 1, 0, Check.NO_INDEX, OrderEdges::twoAndOne,
                (x, bench) -> x.compare(0, bench, 0, 0));
    }

    @Sentence(promise = 18, words = "if there is no such ORDER, BENCH or PLACE (both)")
    static void compareNoPlace(Check check) {
        check.bounds("compare place", 0, 1, 2, -1, Check.NO_INDEX, OrderEdges::three, (x, place) -> x.compare(0, 0, place, 1));
        check.bounds("compare other", 0, -1, 2, 1, Check.NO_INDEX, OrderEdges::three, (x, other) -> x.compare(0, 0, 1, other));
        check.bounds("compare place of sixteen", 0, -1, 15, 1, Check.NO_INDEX, () -> Check.laid(UNLIKE_16),
                (x, place) -> x.compare(0, 0, place, 7));
        check.bounds("compare other of sixteen", 0, 1, 15, -1, Check.NO_INDEX, () -> Check.laid(UNLIKE_16),
                (x, other) -> x.compare(0, 0, 7, other));
        Orderbench empty = Check.fresh();
        check.thrown("compare of no place", Check.NO_INDEX, empty, () -> empty.compare(0, 0, 0, 0));
    }

    // ---- promise 19

    @Sentence(promise = 19, words = "Returns what the ORDER tells of that THING and what lies there")
    static void againstTheLeastAndTheGreatest(Check check) {
        Orderbench x = Check.with("3b 0a 9f -", "n");
        check.asked("the least ahead", -1, x, () -> x.against(3, 0, 0, 0, 0));
        check.asked("the greatest behind", 1, x, () -> x.against(3, 9, 5, 0, 0));
        check.asked("the least, alike", 0, x, () -> x.against(3, 0, 0, 0, 1));
        check.asked("the greatest, alike", 0, x, () -> x.against(3, 9, 5, 0, 2));
        check.asked("the letter before", -1, x, () -> x.against(3, 3, 0, 0, 0));
        check.asked("the letter behind", 1, x, () -> x.against(3, 3, 2, 0, 0));
    }

    @Sentence(promise = 19, words = "REFUSED if it does not take these.")
    static void againstANothing(Check check) {
        int[] dues = {-9, -9, 1, -1, 1, -1, -1};
        String[] steps = {"w", "n~", "w[", "w]", "<", ">", "b[~"};
        for (int k = 0; k < dues.length; k++) {
            Orderbench x = Check.with("3b -", steps[k]);
            check.answers("a nothing, " + steps[k], dues[k], x, () -> x.against(3, 3, 1, 0, 1));
            check.asked("a thing, " + steps[k], 0, x, () -> x.against(3, 3, 1, 0, 0));
            Orderbench alone = Check.with("-", steps[k]);
            check.answers("a nothing alone, " + steps[k], dues[k], alone, () -> alone.against(3, 0, 0, 0, 0));
        }
    }

    @Sentence(promise = 19, words = "if there is no such ORDER, BENCH or PLACE")
    static void againstByNoOrder(Check check) {
        check.bounds("against order", 0, -1, 9, -1, Check.NO_INDEX, OrderEdges::twoAndOne,
                (x, order) -> x.against(order, 2, 0, 0, 0));
    }

    @Sentence(promise = 19, words = "if there is no such ORDER, BENCH or PLACE")
    static void againstOnNoBench(Check check) {
        check.bounds("against bench", 0, 1, 1, -1, Check.NO_INDEX, OrderEdges::twoAndOne,
                (x, bench) -> x.against(0, 4, 0, bench, 0));
    }

    @Sentence(promise = 19, words = "if there is no such ORDER, BENCH or PLACE")
    static void againstNoPlace(Check check) {
        check.bounds("against place", 0, -1, 2, 1, Check.NO_INDEX, OrderEdges::three,
                (x, place) -> x.against(0, 2, 0, 0, place));
        check.bounds("against place of sixteen", 0, 1, 15, -1, Check.NO_INDEX, () -> Check.laid(UNLIKE_16),
                (x, place) -> x.against(0, 2, 0, 0, place));
        Orderbench empty = Check.fresh();
        check.thrown("against no place", Check.NO_INDEX, empty, () -> empty.against(0, 0, 0, 0, 0));
    }

    @Sentence(promise = 19, words = "if weight is not 0 to 9")
    static void againstNoWeight(Check check) {
        check.bounds("against weight", 0, -1, 9, 1, Check.NO_ARGUMENT, OrderEdges::three,
                (x, weight) -> x.against(0, weight, 0, 0, 0));
    }

    @Sentence(promise = 19, words = "or letter not 0 to 5")
    static void againstNoLetter(Check check) {
        check.bounds("against letter", 0, 0, 5, 0, Check.NO_ARGUMENT, OrderEdges::three,
                (x, letter) -> x.against(0, 3, letter, 0, 0));
    }

    @Sentence(promise = 19, words = "Throws `IndexOutOfBoundsException` if there is no such ORDER, BENCH or PLACE")
    static void againstTheFirstNamedException(Check check) {
        Orderbench x = Check.laid("3b -");
        check.thrown("order ahead of weight", Check.NO_INDEX, x, () -> x.against(10, 10, 0, 0, 0));
        check.thrown("bench ahead of weight", Check.NO_INDEX, x, () -> x.against(0, -1, 0, 2, 0));
        check.thrown("place ahead of letter", Check.NO_INDEX, x, () -> x.against(0, 0, 6, 0, 2));
        check.thrown("weight ahead of refused", Check.NO_ARGUMENT, x, () -> x.against(0, 10, 0, 0, 1));
        check.thrown("letter ahead of refused", Check.NO_ARGUMENT, x, () -> x.against(0, 0, -1, 0, 1));
    }

    // ---- promise 20

    private static void alike(Check check, String texts, String one, String other, boolean want) {
        Orderbench x = Check.with(texts, one);
        Check.make(x, 4, other);
        check.asked(one + " and " + other + " of " + texts, want, x, () -> x.tellAlike(3, 4, 0));
        check.asked(other + " and " + one + " of " + texts, want, x, () -> x.tellAlike(4, 3, 0));
    }

    @Sentence(promise = 20, words = "Returns whether both tell the same of each two that lie there")
    static void tellAlikeOfNoPlace(Check check) {
        alike(check, "", "w", "b", true);
        alike(check, "", "w", "w[", true);
        alike(check, "", "<", ">", true);
    }

    @Sentence(promise = 20, words = "also of one with itself (also that they do not take them).")
    static void tellAlikeOfOnePlace(Check check) {
        alike(check, "3b", "w", "b", true);
        alike(check, "3b", "w", "w[", true);
        alike(check, "-", "w", "b", true);
        alike(check, "-", "w", "w[", false);
        alike(check, "-", "w[", "l]", true);
        alike(check, "-", "<", ">~", true);
    }

    @Sentence(promise = 20, words = "(also that they do not take them)")
    static void tellAlikeWithNothings(Check check) {
        alike(check, "- -", "w", "b", true);
        alike(check, "- -", "w", "<", false);
        alike(check, "- -", "<", ">", true);
        alike(check, "- 3b", "w", "b", true);
        alike(check, "- 3b", "w[", "b[", true);
        alike(check, "- 3b", "w[", "w]", false);
        alike(check, "- 3b", "w]~", "w[", true);
        alike(check, "3b 1c -", "w", "w[", false);
        alike(check, "3b 1c -", "w", "b", false);
        alike(check, "3b 1c -", "w", "t", true);
        alike(check, NOTHINGS_16, "w", "l", true);
        alike(check, NOTHINGS_16, "w", ">", false);
    }

    @Sentence(promise = 20, words = "Returns whether both tell the same of each two that lie there")
    static void tellAlikeButForTheFirstOrTheLastTwo(Check check) {
        alike(check, "3b ".repeat(16), "w", "b", true);
        alike(check, "3b ".repeat(15).concat("3c"), "w", "n", false);
        alike(check, "3c ".concat("3b ".repeat(15)), "w", "n", false);
        alike(check, "3b ".repeat(14).concat("4b 4c"), "w", "n", false);
        alike(check, "3b 3c ".concat("4b ".repeat(14)), "w", "n", false);
        alike(check, UNLIKE_16, "n", "b~", true);
        alike(check, UNLIKE_16, "n", "b~[", true);
        alike(check, UNLIKE_16, "n", "w", false);
    }

    @Sentence(promise = 20, words = "another one, or the same")
    static void tellAlikeWithItself(Check check) {
        for (String steps : "w n~ w[ >".split(" ")) {
            for (String texts : new String[] {"", "-", "3b", "3b -", UNLIKE_16}) {
                Orderbench x = Check.with(texts, steps);
                check.asked(steps + " of " + texts, true, x, () -> x.tellAlike(3, 3, 0));
            }
        }
    }

    @Sentence(promise = 20, words = "if there is no such ORDER (both) or BENCH")
    static void tellAlikeByNoOrder(Check check) {
        check.bounds("tellAlike order", 0, true, 9, true, Check.NO_INDEX, OrderEdges::twoAndOne,
                (x, order) -> x.tellAlike(order, 4, 0));
        check.bounds("tellAlike order, of no place", 0, true, 9, true, Check.NO_INDEX, Check::fresh,
                (x, order) -> x.tellAlike(order, 4, 0));
    }

    @Sentence(promise = 20, words = "if there is no such ORDER (both) or BENCH")
    static void tellAlikeByNoOther(Check check) {
        check.bounds("tellAlike other", 0, true, 9, true, Check.NO_INDEX, OrderEdges::twoAndOne,
                (x, other) -> x.tellAlike(4, other, 0));
        check.bounds("tellAlike other, of no place", 0, true, 9, true, Check.NO_INDEX, Check::fresh,
                (x, other) -> x.tellAlike(4, other, 0));
    }

    @Sentence(promise = 20, words = "if there is no such ORDER (both) or BENCH")
    static void tellAlikeOnNoBench(Check check) {
        check.bounds("tellAlike bench", 0, false, 1, true, Check.NO_INDEX, () -> {
            Orderbench x = twoAndOne();
            x.turn(4, 4);
            return x;
        }, (x, bench) -> x.tellAlike(0, 4, bench));
    }

    // ---- promise 21

    @Sentence(promise = 21, words = "Returns whether of all THINGS there (and of NOTHINGS, if it is SAFE)")
    static void isPreorderOfEachKindOfBench(Check check) {
        String[] all = {"", "3b", "-", "- -", "3b -", "- 3b 1c -", NOTHINGS_16, "3b ".repeat(16), UNLIKE_16,
            "3b ".repeat(15).concat("-")};
        for (String texts : all) {
            for (String steps : "w l p n b d t n~ w[ b] < > d]~".split(" ")) {
                Orderbench x = Check.with(texts, steps);
                check.asked(steps + " of " + texts, true, x, () -> x.isPreorder(3, 0));
            }
        }
    }

    @Sentence(promise = 21, words = "what the THEOREM tells of a preorder is so.")
    static void isPreorderByTheGreatest(Check check) {
        Orderbench x = greatest();
        x.fill(0, 16, 3, 7);
        check.asked("not safe", true, x, () -> x.isPreorder(3, 0));
        check.asked("safe", true, x, () -> x.isPreorder(4, 0));
        check.asked("of no place", true, x, () -> x.isPreorder(4, 1));
    }

    @Sentence(promise = 21, words = "if there is no such BENCH or ORDER")
    static void isPreorderByNoOrder(Check check) {
        check.bounds("isPreorder order", 0, true, 9, true, Check.NO_INDEX, OrderEdges::twoAndOne,
                (x, order) -> x.isPreorder(order, 0));
    }

    @Sentence(promise = 21, words = "if there is no such BENCH or ORDER")
    static void isPreorderOnNoBench(Check check) {
        check.bounds("isPreorder bench", 0, true, 1, true, Check.NO_INDEX, OrderEdges::twoAndOne,
                (x, bench) -> x.isPreorder(0, bench));
    }
}
