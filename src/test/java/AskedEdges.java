/** The boundaries of promises 22 to 34. */
final class AskedEdges {
    private static final String UNLIKE_16 = "0a 0b 1a 1b 2a 2b 3a 3b 4a 4b 5a 5b 6a 6b 7a 7b";
    private static final String FALLING_16 = "7b 7a 6b 6a 5b 5a 4b 4a 3b 3a 2b 2a 1b 1a 0b 0a";
    private static final String NOTHINGS_16 = "- ".repeat(16);
    private static final String THINGS_16 = "3b ".repeat(16);
    private static final String THINGS_AND_A_NOTHING = "3b ".repeat(15).concat("-");
    private static final String A_NOTHING_AND_THINGS = "- ".concat("3b ".repeat(15));

    private AskedEdges() {
    }

    /** What is asked of the BENCH 0 by the ORDER 3. */
    private interface Asked {
        Object of(Orderbench bench);
    }

    private static void asks(Check check, String texts, String steps, Object want, Asked asked) {
        Orderbench x = Check.with(texts, steps);
        check.answers(texts + " by " + steps, want, x, () -> asked.of(x));
    }

    /** Asks this of each of these BENCHES by each of these ORDERS. */
    private static void asksAll(Check check, String[] all, String steps, Object want, Asked asked) {
        for (String texts : all) {
            for (String step : steps.split(" ")) {
                asks(check, texts, step, want, asked);
            }
        }
    }

    private static Orderbench three() {
        return Check.laid("3b - 1a");
    }

    /** The BENCHES 0 and 1 have two PLACES and one. */
    private static Orderbench twoAndOne() {
        return Check.lay(Check.laid("3b 4a"), 1, "5f");
    }

    // ---- promise 22

    @Sentence(promise = 22, words = "Returns what lies there, PLACE by PLACE, with \" \" between; \"\" without.")
    static void textOfNoneOneAndSixteen(Check check) {
        asks(check, "", "w", "", x -> x.text(0));
        asks(check, "3b", "w", "3b#0", x -> x.text(0));
        asks(check, "-", "w", "-", x -> x.text(0));
        asks(check, "- -", "w", "- -", x -> x.text(0));
        asks(check, "3b - 9f", "w", "3b#0 - 9f#1", x -> x.text(0));
        asks(check, NOTHINGS_16, "w", "- - - - - - - - - - - - - - - -", x -> x.text(0));
        asks(check, UNLIKE_16, "w", "0a#0 0b#1 1a#2 1b#3 2a#4 2b#5 3a#6 3b#7 4a#8 4b#9 5a#10 5b#11 6a#12 6b#13 7a#14 7b#15",
                x -> x.text(0));
    }

    @Sentence(promise = 22, words = "if there is no such BENCH")
    static void textOfNoBench(Check check) {
        check.bounds("text", 0, "3b#0 4a#1", 1, "5f#2", Check.NO_INDEX, AskedEdges::twoAndOne, (x, bench) -> x.text(bench));
    }

    // ---- promise 23

    @Sentence(promise = 23, words = "Returns the text of what lies there.")
    static void thingOfAThingAndANothing(Check check) {
        asks(check, "9f -", "w", "9f#0", x -> x.thing(0, 0));
        asks(check, "9f -", "w", "-", x -> x.thing(0, 1));
        asks(check, UNLIKE_16, "w", "7b#15", x -> x.thing(0, 15));
    }

    @Sentence(promise = 23, words = "if there is no such BENCH or PLACE")
    static void thingOnNoBench(Check check) {
        check.bounds("thing on bench", 0, "3b#0", 1, "5f#2", Check.NO_INDEX, AskedEdges::twoAndOne,
                (x, bench) -> x.thing(bench, 0));
    }

    @Sentence(promise = 23, words = "if there is no such BENCH or PLACE")
    static void thingOnNoPlace(Check check) {
        check.bounds("thing of three", 0, "3b#0", 2, "1a#1", Check.NO_INDEX, AskedEdges::three, (x, place) -> x.thing(0, place));
        check.bounds("thing of one", 0, "5f#2", 0, "5f#2", Check.NO_INDEX, AskedEdges::twoAndOne,
                (x, place) -> x.thing(1, place));
        check.bounds("thing of sixteen", 0, "0a#0", 15, "7b#15", Check.NO_INDEX, () -> Check.laid(UNLIKE_16),
                (x, place) -> x.thing(0, place));
        Orderbench x = three();
        check.thrown("thing of none", Check.NO_INDEX, x, () -> x.thing(1, 0));
        x.take(0, 1);
        check.thrown("thing where none is any more", Check.NO_INDEX, x, () -> x.thing(0, 2));
    }

    // ---- promise 24

    @Sentence(promise = 24, words = "Returns how many PLACES there are.")
    static void sizeOfNoneOneAndSixteen(Check check) {
        asks(check, "", "w", 0, x -> x.size(0));
        asks(check, "3b", "w", 1, x -> x.size(0));
        asks(check, "-", "w", 1, x -> x.size(0));
        asks(check, "3b - 1a", "w", 3, x -> x.size(0));
        asks(check, NOTHINGS_16, "w", 16, x -> x.size(0));
        asks(check, THINGS_16, "w", 16, x -> x.size(0));
    }

    @Sentence(promise = 24, words = "if there is no such BENCH")
    static void sizeOfNoBench(Check check) {
        check.bounds("size", 0, 2, 1, 1, Check.NO_INDEX, AskedEdges::twoAndOne, (x, bench) -> x.size(bench));
    }

    // ---- promise 25

    @Sentence(promise = 25, words = "Returns whether the ORDER TAKES the BENCH")
    static void isSortedByOneThatTakesTheBench(Check check) {
        Asked isSorted = x -> x.isSorted(0, 3);
        asksAll(check, new String[] {"", "3b", "-"}, "w n~ w[ >", true, isSorted);
        asksAll(check, new String[] {"- -", "- 3b", "3b -", "1a 2a -", NOTHINGS_16, THINGS_AND_A_NOTHING}, "w b~", false, isSorted);
        asksAll(check, new String[] {"- -", NOTHINGS_16}, "w[ w] < >", true, isSorted);
        asksAll(check, new String[] {"- 3b", "- 1a 2a", A_NOTHING_AND_THINGS}, "w[ w~~[ n[ <", true, isSorted);
        asksAll(check, new String[] {"3b -", "1a 2a -", THINGS_AND_A_NOTHING}, "w] n] >", true, isSorted);
    }

    @Sentence(promise = 25, words = "no one there stands, by it, ahead of the one right ahead of it.")
    static void isSortedButForOnePlace(Check check) {
        Asked isSorted = x -> x.isSorted(0, 3);
        asks(check, "1a 2a", "w", true, isSorted);
        asks(check, "2a 1a", "w", false, isSorted);
        asks(check, "2a 1a", "w~", true, isSorted);
        asks(check, "2a 2a", "w", true, isSorted);
        asks(check, "2a 1a 1a 1a", "w", false, isSorted);
        asks(check, "1a 1a 2a 1a", "w", false, isSorted);
        asks(check, "1a 2a 1a 2a", "w", false, isSorted);
        asks(check, UNLIKE_16, "n", true, isSorted);
        asks(check, UNLIKE_16, "w", true, isSorted);
        asks(check, UNLIKE_16, "l", false, isSorted);
        asks(check, FALLING_16, "b", true, isSorted);
        asks(check, "4a ".concat("3b ".repeat(15)), "w", false, isSorted);
        asks(check, "3b ".repeat(15).concat("2a"), "w", false, isSorted);
        asks(check, "3b ".repeat(15).concat("4a"), "w", true, isSorted);
        asks(check, "3b ".repeat(15).concat("4a"), "l", false, isSorted);
    }

    @Sentence(promise = 25, words = "no one there stands, by it, ahead of the one right ahead of it.")
    static void isSortedWithNothings(Check check) {
        Asked isSorted = x -> x.isSorted(0, 3);
        asksAll(check, new String[] {"3b -", "1a - 2a", THINGS_AND_A_NOTHING}, "w[ < w]~", false, isSorted);
        asksAll(check, new String[] {"- 3b", "1a - 2a", A_NOTHING_AND_THINGS}, "w] > w[~", false, isSorted);
    }

    @Sentence(promise = 25, words = "if there is no such BENCH or ORDER")
    static void isSortedOfNoBench(Check check) {
        check.bounds("isSorted bench", 0, true, 1, true, Check.NO_INDEX, AskedEdges::twoAndOne,
                (x, bench) -> x.isSorted(bench, 0));
    }

    @Sentence(promise = 25, words = "if there is no such BENCH or ORDER")
    static void isSortedByNoOrder(Check check) {
        check.bounds("isSorted order", 0, true, 9, true, Check.NO_INDEX, AskedEdges::twoAndOne,
                (x, order) -> x.isSorted(0, order));
    }

    // ---- promise 26

    @Sentence(promise = 26, words = "Returns how many can be chosen there at most of which no two are ALIKE")
    static void classesFromNoneToSixteen(Check check) {
        Asked classes = x -> x.classes(0, 3);
        asksAll(check, new String[] {""}, "w w[ <", 0, classes);
        asksAll(check, new String[] {"3b"}, "w w[ <", 1, classes);
        asksAll(check, new String[] {THINGS_16}, "w n b] >", 1, classes);
        asksAll(check, new String[] {UNLIKE_16, FALLING_16}, "n b n[ b]~", 16, classes);
        asksAll(check, new String[] {UNLIKE_16, FALLING_16}, "w w~", 8, classes);
        asksAll(check, new String[] {UNLIKE_16, FALLING_16}, "l t p", 2, classes);
        asksAll(check, new String[] {UNLIKE_16, FALLING_16}, "d d~", 3, classes);
        asksAll(check, new String[] {UNLIKE_16, FALLING_16}, "< >~", 1, classes);
        asks(check, "1a 2a 1a 2a 1a", "w", 2, classes);
    }

    @Sentence(promise = 26, words = "Returns how many can be chosen there at most of which no two are ALIKE")
    static void classesWithNothings(Check check) {
        Asked classes = x -> x.classes(0, 3);
        asksAll(check, new String[] {"-", "- -", NOTHINGS_16}, "w[ w] < >", 1, classes);
        asksAll(check, new String[] {"- 3b", "3b - 3b -", A_NOTHING_AND_THINGS}, "w[ w] < > b[~", 2, classes);
        asks(check, "3b - 2c", "<", 2, classes);
        asks(check, "3b - 2c", "w]", 3, classes);
    }

    @Sentence(promise = 26, words = "REFUSED if the ORDER is not SAFE, and a NOTHING lies there.")
    static void classesRefused(Check check) {
        asksAll(check, new String[] {"-", "- -", "3b -", "- 3b", NOTHINGS_16, THINGS_AND_A_NOTHING, A_NOTHING_AND_THINGS},
                "w n~", -9, x -> x.classes(0, 3));
    }

    @Sentence(promise = 26, words = "if there is no such BENCH or ORDER")
    static void classesOfNoBench(Check check) {
        check.bounds("classes bench", 0, 2, 1, 1, Check.NO_INDEX, AskedEdges::twoAndOne, (x, bench) -> x.classes(bench, 0));
    }

    @Sentence(promise = 26, words = "if there is no such BENCH or ORDER")
    static void classesByNoOrder(Check check) {
        check.bounds("classes order", 0, 2, 9, 2, Check.NO_INDEX, AskedEdges::twoAndOne, (x, order) -> x.classes(0, order));
    }

    // ---- promise 27

    @Sentence(promise = 27, words = "Returns how many are ALIKE to one than which none stands ahead (with itself)")
    static void leastOfOneToSixteen(Check check) {
        Asked least = x -> x.least(0, 3);
        asksAll(check, new String[] {"3b"}, "w n~ w[ >", 1, least);
        asksAll(check, new String[] {UNLIKE_16, FALLING_16}, "n b n[ b]~", 1, least);
        asksAll(check, new String[] {UNLIKE_16, FALLING_16}, "w w~", 2, least);
        asksAll(check, new String[] {UNLIKE_16, FALLING_16}, "l t p", 8, least);
        asksAll(check, new String[] {UNLIKE_16, FALLING_16}, "d", 6, least);
        asksAll(check, new String[] {UNLIKE_16, FALLING_16}, "d~", 4, least);
        asksAll(check, new String[] {THINGS_16}, "w b~ w] <", 16, least);
        asks(check, "2a 1a 2a 1a 1a", "w", 3, least);
        asks(check, "2a 1a 2a 1a 1a", "w~", 2, least);
    }

    @Sentence(promise = 27, words = "Returns how many are ALIKE to one than which none stands ahead (with itself)")
    static void leastWithNothings(Check check) {
        Asked least = x -> x.least(0, 3);
        asksAll(check, new String[] {"-"}, "w[ w] < >", 1, least);
        asksAll(check, new String[] {NOTHINGS_16}, "w[ w] < >", 16, least);
        asksAll(check, new String[] {"3b - -"}, "w[ < w]~ >~", 2, least);
        asksAll(check, new String[] {"3b - -"}, "w] > w[~ <~", 1, least);
        asksAll(check, new String[] {THINGS_AND_A_NOTHING, A_NOTHING_AND_THINGS}, "w[ <", 1, least);
        asksAll(check, new String[] {THINGS_AND_A_NOTHING, A_NOTHING_AND_THINGS}, "w] >", 15, least);
    }

    @Sentence(promise = 27, words = "REFUSED if there is no PLACE")
    static void leastOfNoPlace(Check check) {
        asksAll(check, new String[] {""}, "w n~ w[ w] < >", -9, x -> x.least(0, 3));
    }

    @Sentence(promise = 27, words = "or the ORDER does not TAKE it")
    static void leastByOneThatDoesNotTakeIt(Check check) {
        asksAll(check, new String[] {"- -", "3b -", "- 3b", NOTHINGS_16, THINGS_AND_A_NOTHING, A_NOTHING_AND_THINGS},
                "w n~", -9, x -> x.least(0, 3));
    }

    @Sentence(promise = 27, words = "or a NOTHING lies alone and it is not SAFE.")
    static void leastOfANothingAlone(Check check) {
        asksAll(check, new String[] {"-"}, "w l p n b d t w~", -9, x -> x.least(0, 3));
    }

    @Sentence(promise = 27, words = "if there is no such BENCH or ORDER")
    static void leastOfNoBench(Check check) {
        check.bounds("least bench", 0, 1, 1, 1, Check.NO_INDEX, AskedEdges::twoAndOne, (x, bench) -> x.least(bench, 0));
    }

    @Sentence(promise = 27, words = "if there is no such BENCH or ORDER")
    static void leastByNoOrder(Check check) {
        check.bounds("least order", 0, 1, 9, 1, Check.NO_INDEX, AskedEdges::twoAndOne, (x, order) -> x.least(0, order));
    }

    // ---- promise 28

    @Sentence(promise = 28, words = "Returns how many are ALIKE to one than which none stands behind")
    static void greatestOfOneToSixteen(Check check) {
        Asked greatest = x -> x.greatest(0, 3);
        asksAll(check, new String[] {"3b"}, "w n~ w[ >", 1, greatest);
        asksAll(check, new String[] {UNLIKE_16, FALLING_16}, "n b n[ b]~", 1, greatest);
        asksAll(check, new String[] {UNLIKE_16, FALLING_16}, "w w~", 2, greatest);
        asksAll(check, new String[] {UNLIKE_16, FALLING_16}, "l t p", 8, greatest);
        asksAll(check, new String[] {UNLIKE_16, FALLING_16}, "d", 4, greatest);
        asksAll(check, new String[] {UNLIKE_16, FALLING_16}, "d~", 6, greatest);
        asksAll(check, new String[] {THINGS_16}, "w b~ w] <", 16, greatest);
        asks(check, "2a 1a 2a 1a 1a", "w", 2, greatest);
        asks(check, "2a 1a 2a 1a 1a", "w~", 3, greatest);
    }

    @Sentence(promise = 28, words = "Returns how many are ALIKE to one than which none stands behind")
    static void greatestWithNothings(Check check) {
        Asked greatest = x -> x.greatest(0, 3);
        asksAll(check, new String[] {"-"}, "w[ w] < >", 1, greatest);
        asksAll(check, new String[] {NOTHINGS_16}, "w[ w] < >", 16, greatest);
        asksAll(check, new String[] {"3b - -"}, "w[ < w]~ >~", 1, greatest);
        asksAll(check, new String[] {"3b - -"}, "w] > w[~ <~", 2, greatest);
        asksAll(check, new String[] {THINGS_AND_A_NOTHING, A_NOTHING_AND_THINGS}, "w[ <", 15, greatest);
        asksAll(check, new String[] {THINGS_AND_A_NOTHING, A_NOTHING_AND_THINGS}, "w] >", 1, greatest);
    }

    @Sentence(promise = 28, words = "REFUSED likewise.")
    static void greatestOfNoPlace(Check check) {
        asksAll(check, new String[] {""}, "w n~ w[ w] < >", -9, x -> x.greatest(0, 3));
    }

    @Sentence(promise = 28, words = "REFUSED likewise.")
    static void greatestByOneThatDoesNotTakeIt(Check check) {
        asksAll(check, new String[] {"- -", "3b -", "- 3b", NOTHINGS_16, THINGS_AND_A_NOTHING, A_NOTHING_AND_THINGS},
                "w n~", -9, x -> x.greatest(0, 3));
    }

    @Sentence(promise = 28, words = "REFUSED likewise.")
    static void greatestOfANothingAlone(Check check) {
        asksAll(check, new String[] {"-"}, "w l p n b d t w~", -9, x -> x.greatest(0, 3));
    }

    @Sentence(promise = 28, words = "if there is no such BENCH or ORDER")
    static void greatestOfNoBench(Check check) {
        check.bounds("greatest bench", 0, 1, 1, 1, Check.NO_INDEX, AskedEdges::twoAndOne,
                (x, bench) -> x.greatest(bench, 0));
    }

    @Sentence(promise = 28, words = "if there is no such BENCH or ORDER")
    static void greatestByNoOrder(Check check) {
        check.bounds("greatest order", 0, 1, 9, 1, Check.NO_INDEX, AskedEdges::twoAndOne,
                (x, order) -> x.greatest(0, order));
    }

    // ---- promise 29

    private static void finds(Check check, String texts, String steps, int weight, int letter, int want) {
        asks(check, texts, steps, want, x -> x.found(0, 3, weight, letter));
    }

    @Sentence(promise = 29, words = "Returns 1 if one there is ALIKE to it, otherwise 0")
    static void foundOnNoneOneAndSixteen(Check check) {
        for (String steps : "w n~ w[ >".split(" ")) {
            finds(check, "", steps, 3, 1, 0);
            finds(check, "3b", steps, 3, 1, 1);
        }
        finds(check, "3b", "w", 2, 1, 0);
        finds(check, "3b", "w", 4, 1, 0);
        finds(check, "3b", "n", 3, 0, 0);
        finds(check, "3b", "l", 9, 1, 1);
        finds(check, "3b", "<", 9, 5, 1);
        finds(check, UNLIKE_16, "n", 0, 0, 1);
        finds(check, UNLIKE_16, "n", 7, 1, 1);
        finds(check, UNLIKE_16, "n", 3, 5, 0);
        finds(check, UNLIKE_16, "n", 9, 5, 0);
        finds(check, FALLING_16, "b", 0, 0, 1);
        finds(check, FALLING_16, "b", 7, 1, 1);
        finds(check, FALLING_16, "b", 7, 2, 0);
        finds(check, THINGS_16, "w", 3, 5, 1);
    }

    @Sentence(promise = 29, words = "Returns 1 if one there is ALIKE to it, otherwise 0")
    static void foundWithNothings(Check check) {
        for (String steps : "w[ w] < >".split(" ")) {
            finds(check, "-", steps, 0, 0, 0);
            finds(check, NOTHINGS_16, steps, 9, 5, 0);
        }
        finds(check, "- 3b", "w[", 3, 0, 1);
        finds(check, "- 3b", "w[", 2, 0, 0);
        finds(check, "3b -", "w]", 3, 0, 1);
        finds(check, "3b -", "w]", 4, 0, 0);
        finds(check, A_NOTHING_AND_THINGS, "<", 9, 5, 1);
    }

    @Sentence(promise = 29, words = "REFUSED if the BENCH is not sorted by the ORDER")
    static void foundOnABenchThatIsNotSorted(Check check) {
        finds(check, "3b 1a", "w", 3, 1, -9);
        finds(check, "1a 3b", "w~", 3, 1, -9);
        finds(check, "1a 2a 1a", "w", 1, 0, -9);
        finds(check, UNLIKE_16, "l", 1, 0, -9);
        finds(check, FALLING_16, "n", 1, 0, -9);
        finds(check, "3b -", "w[", 3, 1, -9);
        finds(check, "- 3b", "w]", 3, 1, -9);
        finds(check, THINGS_AND_A_NOTHING, "<", 3, 1, -9);
    }

    @Sentence(promise = 29, words = "or a NOTHING lies there, and it is not SAFE.")
    static void foundByAnUnsafeOneOnNothings(Check check) {
        for (String texts : new String[] {"-", "- -", "- 3b", "3b -", "1a 2a -", NOTHINGS_16, A_NOTHING_AND_THINGS}) {
            finds(check, texts, "w", 3, 1, -9);
            finds(check, texts, "b~", 9, 5, -9);
        }
    }

    @Sentence(promise = 29, words = "if there is no such BENCH or ORDER")
    static void foundOnNoBench(Check check) {
        check.bounds("found bench", 0, 0, 1, 1, Check.NO_INDEX, AskedEdges::twoAndOne, (x, bench) -> x.found(bench, 0, 5, 0));
    }

    @Sentence(promise = 29, words = "if there is no such BENCH or ORDER")
    static void foundByNoOrder(Check check) {
        check.bounds("found order", 0, 1, 9, 1, Check.NO_INDEX, AskedEdges::twoAndOne, (x, order) -> x.found(0, order, 3, 0));
    }

    @Sentence(promise = 29, words = "if weight is not 0 to 9")
    static void foundNoWeight(Check check) {
        check.bounds("found weight", 0, 1, 9, 1, Check.NO_ARGUMENT, () -> Check.laid("0a 9f"),
                (x, weight) -> x.found(0, 0, weight, 0));
        check.bounds("found weight, refused", 0, -9, 9, -9, Check.NO_ARGUMENT, () -> Check.laid("9a 0f"),
                (x, weight) -> x.found(0, 0, weight, 0));
    }

    @Sentence(promise = 29, words = "or letter not 0 to 5")
    static void foundNoLetter(Check check) {
        check.bounds("found letter", 0, 1, 5, 1, Check.NO_ARGUMENT, () -> Check.with("0a 9f", "l"),
                (x, letter) -> x.found(0, 3, 0, letter));
        check.bounds("found letter, refused", 0, -9, 5, -9, Check.NO_ARGUMENT, () -> Check.laid("-"),
                (x, letter) -> x.found(0, 3, 0, letter));
    }

    @Sentence(promise = 29, words = "Throws `IndexOutOfBoundsException` if there is no such BENCH or ORDER")
    static void foundTheFirstNamedException(Check check) {
        Orderbench x = Check.laid("3b 1a");
        check.thrown("bench ahead of weight", Check.NO_INDEX, x, () -> x.found(2, 0, 10, 0));
        check.thrown("order ahead of letter", Check.NO_INDEX, x, () -> x.found(0, 10, 0, 6));
        check.thrown("weight ahead of refused", Check.NO_ARGUMENT, x, () -> x.found(0, 0, 10, 0));
        check.thrown("letter ahead of refused", Check.NO_ARGUMENT, x, () -> x.found(0, 0, 0, 6));
    }

    // ---- promise 30

    private static void leavesRoom(Check check, String texts, String steps, int weight, int letter, int want) {
        asks(check, texts, steps, want, x -> x.room(0, 3, weight, letter));
    }

    @Sentence(promise = 30, words = "Returns how many stand ahead of it there, if none is ALIKE to it")
    static void roomFromNoneToSixteen(Check check) {
        for (String steps : "w n~ w[ >".split(" ")) {
            leavesRoom(check, "", steps, 3, 1, 0);
        }
        leavesRoom(check, "3b", "w", 2, 1, 0);
        leavesRoom(check, "3b", "w", 4, 1, 1);
        leavesRoom(check, "3b", "w~", 4, 1, 0);
        leavesRoom(check, "3b", "n", 3, 0, 0);
        leavesRoom(check, "3b", "n", 3, 2, 1);
        leavesRoom(check, UNLIKE_16, "n", 0, 2, 2);
        leavesRoom(check, UNLIKE_16, "n", 6, 5, 14);
        leavesRoom(check, UNLIKE_16, "n", 9, 5, 16);
        leavesRoom(check, FALLING_16, "b", 9, 5, 0);
        leavesRoom(check, FALLING_16, "b", 0, 5, 14);
        leavesRoom(check, THINGS_16, "w", 2, 1, 0);
        leavesRoom(check, THINGS_16, "w", 4, 1, 16);
    }

    @Sentence(promise = 30, words = "Returns how many stand ahead of it there, if none is ALIKE to it")
    static void roomWithNothings(Check check) {
        leavesRoom(check, "-", "w[", 0, 0, 1);
        leavesRoom(check, "-", "w]", 9, 5, 0);
        leavesRoom(check, "-", "<", 0, 0, 1);
        leavesRoom(check, "-", ">", 9, 5, 0);
        leavesRoom(check, NOTHINGS_16, "w[", 0, 0, 16);
        leavesRoom(check, NOTHINGS_16, "w]", 9, 5, 0);
        leavesRoom(check, "- 3b", "w[", 2, 0, 1);
        leavesRoom(check, "- 3b", "w[", 4, 0, 2);
        leavesRoom(check, "3b -", "w]", 2, 0, 0);
        leavesRoom(check, "3b -", "w]", 4, 0, 1);
    }

    @Sentence(promise = 30, words = "NONE if one is")
    static void roomOfOneThatIsThere(Check check) {
        leavesRoom(check, "3b", "w", 3, 5, -1);
        leavesRoom(check, "3b", "l", 0, 1, -1);
        leavesRoom(check, "3b", "<", 9, 5, -1);
        leavesRoom(check, UNLIKE_16, "n", 0, 0, -1);
        leavesRoom(check, UNLIKE_16, "n", 7, 1, -1);
        leavesRoom(check, THINGS_16, "w", 3, 0, -1);
        leavesRoom(check, "- 3b", "w[", 3, 0, -1);
        leavesRoom(check, "3b -", ">", 9, 5, -1);
    }

    @Sentence(promise = 30, words = "REFUSED likewise.")
    static void roomOnABenchThatIsNotSorted(Check check) {
        leavesRoom(check, "3b 1a", "w", 3, 1, -9);
        leavesRoom(check, "1a 3b", "w~", 2, 1, -9);
        leavesRoom(check, "1a 2a 1a", "w", 9, 0, -9);
        leavesRoom(check, UNLIKE_16, "l", 1, 0, -9);
        leavesRoom(check, "3b -", "w[", 2, 1, -9);
        leavesRoom(check, "- 3b", "w]", 2, 1, -9);
        leavesRoom(check, A_NOTHING_AND_THINGS, ">", 3, 1, -9);
    }

    @Sentence(promise = 30, words = "REFUSED likewise.")
    static void roomByAnUnsafeOneOnNothings(Check check) {
        for (String texts : new String[] {"-", "- -", "- 3b", "3b -", "1a 2a -", NOTHINGS_16, A_NOTHING_AND_THINGS}) {
            leavesRoom(check, texts, "w", 9, 1, -9);
            leavesRoom(check, texts, "b~", 3, 1, -9);
        }
    }

    @Sentence(promise = 30, words = "if there is no such BENCH or ORDER")
    static void roomOnNoBench(Check check) {
        check.bounds("room bench", 0, 2, 1, -1, Check.NO_INDEX, AskedEdges::twoAndOne, (x, bench) -> x.room(bench, 0, 5, 0));
    }

    @Sentence(promise = 30, words = "if there is no such BENCH or ORDER")
    static void roomByNoOrder(Check check) {
        check.bounds("room order", 0, 2, 9, 2, Check.NO_INDEX, AskedEdges::twoAndOne, (x, order) -> x.room(0, order, 5, 0));
    }

    @Sentence(promise = 30, words = "if weight is not 0 to 9")
    static void roomOfNoWeight(Check check) {
        check.bounds("room weight", 0, 0, 9, 2, Check.NO_ARGUMENT, AskedEdges::twoAndOne,
                (x, weight) -> x.room(0, 0, weight, 0));
        check.bounds("room weight, refused", 0, -9, 9, -9, Check.NO_ARGUMENT, () -> Check.laid("9a 0f"),
                (x, weight) -> x.room(0, 0, weight, 0));
    }

    @Sentence(promise = 30, words = "or letter not 0 to 5")
    static void roomOfNoLetter(Check check) {
        check.bounds("room letter", 0, 0, 5, 1, Check.NO_ARGUMENT, () -> Check.with("0b", "l"),
                (x, letter) -> x.room(0, 3, 0, letter));
        check.bounds("room letter, refused", 0, -9, 5, -9, Check.NO_ARGUMENT, () -> Check.laid("-"),
                (x, letter) -> x.room(0, 3, 0, letter));
    }

    @Sentence(promise = 30, words = "Throws `IndexOutOfBoundsException` if there is no such BENCH or ORDER")
    static void roomTheFirstNamedException(Check check) {
        Orderbench x = Check.laid("3b 1a");
        check.thrown("bench ahead of weight", Check.NO_INDEX, x, () -> x.room(-1, 0, -1, 0));
        check.thrown("order ahead of letter", Check.NO_INDEX, x, () -> x.room(0, -1, 0, -1));
        check.thrown("weight ahead of refused", Check.NO_ARGUMENT, x, () -> x.room(0, 0, -1, 0));
        check.thrown("letter ahead of refused", Check.NO_ARGUMENT, x, () -> x.room(0, 0, 0, -1));
    }

    // ---- promise 31

    private static void isTwice(Check check, String texts, String first, String second) {
        Orderbench x = Check.with(texts, first);
        Check.make(x, 4, second);
        check.asked(texts + " by " + first + " and " + second, true, x, () -> x.isTwice(0, 3, 4));
    }

    @Sentence(promise = 31, words = "Returns whether a copy sorted by both TOGETHER lies as one that was sorted by the second one, then by the first one")
    static void isTwiceOfNoneOneAndSixteen(Check check) {
        for (String texts : new String[] {"", "3b", "3b 1a", THINGS_16, UNLIKE_16, FALLING_16, "5b 5a 4b 5a 4c 3b 5c 4a 3a 0f 5b"}) {
            for (String first : "w l p n b d t w~ w[ >".split(" ")) {
                for (String second : "w l p n b d t l~ l] <".split(" ")) {
                    isTwice(check, texts, first, second);
                }
            }
        }
    }

    @Sentence(promise = 31, words = "Returns whether a copy sorted by both TOGETHER lies as one that was sorted by the second one, then by the first one")
    static void isTwiceWithNothingsBySafeOnes(Check check) {
        for (String texts : new String[] {"-", "- -", "3b - 1a", "- 5b 5a - 4b 5a -", NOTHINGS_16, A_NOTHING_AND_THINGS}) {
            for (String first : "w[ w] < > l[~".split(" ")) {
                for (String second : "n[ b] < > w]~[".split(" ")) {
                    isTwice(check, texts, first, second);
                }
            }
        }
    }

    @Sentence(promise = 31, words = "also if one of both is not SAFE, and a NOTHING lies there (it is not tried then;")
    static void isTwiceWithNothingsByUnsafeOnes(Check check) {
        for (String texts : new String[] {"-", "- -", "3b - 1a", NOTHINGS_16, THINGS_AND_A_NOTHING}) {
            isTwice(check, texts, "w", "l");
            isTwice(check, texts, "w", "l[");
            isTwice(check, texts, "w[", "l");
            isTwice(check, texts, "<", "b~");
        }
    }

    @Sentence(promise = 31, words = "whether both TOGETHER can be made does not matter")
    static void isTwiceOfTwoThatCanNotBeTogether(Check check) {
        isTwice(check, UNLIKE_16, "<", "b");
        isTwice(check, UNLIKE_16, "w]", "b");
        isTwice(check, UNLIKE_16, Check.unsafeOf(40), Check.unsafeOf(40));
        isTwice(check, UNLIKE_16, Check.safeOf(40), Check.unsafeOf(39));
        isTwice(check, NOTHINGS_16, Check.safeOf(40), Check.safeOf(40));
    }

    @Sentence(promise = 31, words = "another one, or the same")
    static void isTwiceByTheSame(Check check) {
        for (String texts : new String[] {"", "-", "3b", "- 3b", FALLING_16}) {
            for (String steps : "w n~ l[ >".split(" ")) {
                asks(check, texts, steps, true, x -> x.isTwice(0, 3, 3));
            }
        }
    }

    @Sentence(promise = 31, words = "if there is no such BENCH or ORDER (both)")
    static void isTwiceOnNoBench(Check check) {
        check.bounds("isTwice bench", 0, true, 1, true, Check.NO_INDEX, AskedEdges::twoAndOne,
                (x, bench) -> x.isTwice(bench, 0, 1));
    }

    @Sentence(promise = 31, words = "if there is no such BENCH or ORDER (both)")
    static void isTwiceByNoFirst(Check check) {
        check.bounds("isTwice first", 0, true, 9, true, Check.NO_INDEX, AskedEdges::twoAndOne,
                (x, first) -> x.isTwice(0, first, 1));
        check.bounds("isTwice first, of no place", 0, true, 9, true, Check.NO_INDEX, Check::fresh,
                (x, first) -> x.isTwice(0, first, 1));
    }

    @Sentence(promise = 31, words = "if there is no such BENCH or ORDER (both)")
    static void isTwiceByNoSecond(Check check) {
        check.bounds("isTwice second", 0, true, 9, true, Check.NO_INDEX, AskedEdges::twoAndOne,
                (x, second) -> x.isTwice(0, 1, second));
        check.bounds("isTwice second, not tried", 0, true, 9, true, Check.NO_INDEX, AskedEdges::three,
                (x, second) -> x.isTwice(0, 1, second));
    }

    // ---- promise 32

    @Sentence(promise = 32, words = "Returns on how many PLACES NOTHING lies.")
    static void nothingsFromNoneToSixteen(Check check) {
        Asked nothings = x -> x.nothings(0);
        asks(check, "", "w", 0, nothings);
        asks(check, "3b", "w", 0, nothings);
        asks(check, "-", "w", 1, nothings);
        asks(check, "- 3b", "w", 1, nothings);
        asks(check, "3b - 0a -", "w", 2, nothings);
        asks(check, THINGS_16, "w", 0, nothings);
        asks(check, NOTHINGS_16, "w", 16, nothings);
        asks(check, THINGS_AND_A_NOTHING, "w", 1, nothings);
    }

    @Sentence(promise = 32, words = "Returns on how many PLACES NOTHING lies.")
    static void nothingsThatHaveGone(Check check) {
        Orderbench x = Check.laid(NOTHINGS_16);
        x.take(0, 0);
        check.asked("one taken", 15, x, () -> x.nothings(0));
        x.clear(0);
        check.asked("all cleared", 0, x, () -> x.nothings(0));
        x.lay(0, 3, 1);
        check.asked("a thing in their place", 0, x, () -> x.nothings(0));
    }

    @Sentence(promise = 32, words = "if there is no such BENCH")
    static void nothingsOnNoBench(Check check) {
        check.bounds("nothings", 0, 1, 1, 2, Check.NO_INDEX, () -> Check.lay(three(), 1, "- -"),
                (x, bench) -> x.nothings(bench));
    }

    // ---- promise 33

    @Sentence(promise = 33, words = "Returns how many there are ALIKE to what lies there (with itself)")
    static void alikeToFromOneToSixteen(Check check) {
        asksAll(check, new String[] {"3b"}, "w n~ w[ <", 1, x -> x.alikeTo(0, 3, 0));
        asksAll(check, new String[] {THINGS_16}, "w n~ w[ <", 16, x -> x.alikeTo(0, 3, 15));
        asksAll(check, new String[] {UNLIKE_16}, "n b~ n[", 1, x -> x.alikeTo(0, 3, 15));
        asksAll(check, new String[] {UNLIKE_16}, "w w~", 2, x -> x.alikeTo(0, 3, 0));
        asksAll(check, new String[] {UNLIKE_16}, "l t p~", 8, x -> x.alikeTo(0, 3, 15));
        asks(check, "3b 3c 2b 3a", "w", 3, x -> x.alikeTo(0, 3, 3));
        asks(check, "3b 3c 2b 3a", "w", 1, x -> x.alikeTo(0, 3, 2));
    }

    @Sentence(promise = 33, words = "Returns how many there are ALIKE to what lies there (with itself)")
    static void alikeToWithNothings(Check check) {
        asksAll(check, new String[] {"-"}, "w[ w] < >", 1, x -> x.alikeTo(0, 3, 0));
        asksAll(check, new String[] {NOTHINGS_16}, "w[ w] < >", 16, x -> x.alikeTo(0, 3, 15));
        asksAll(check, new String[] {"- 3b 1a -"}, "w[ w]~ < >", 2, x -> x.alikeTo(0, 3, 3));
        asksAll(check, new String[] {"- 3b 1a -"}, "w[ w]", 1, x -> x.alikeTo(0, 3, 1));
        asksAll(check, new String[] {"- 3b 1a -"}, "< >", 2, x -> x.alikeTo(0, 3, 1));
    }

    @Sentence(promise = 33, words = "REFUSED if the ORDER is not SAFE, and a NOTHING lies on the BENCH.")
    static void alikeToRefused(Check check) {
        String[] all = {"-", "- -", "- 3b", "3b -", NOTHINGS_16, THINGS_AND_A_NOTHING, A_NOTHING_AND_THINGS};
        asksAll(check, all, "w n~", -9, x -> x.alikeTo(0, 3, 0));
        asksAll(check, all, "w n~", -9, x -> x.alikeTo(0, 3, x.size(0) - 1));
    }

    @Sentence(promise = 33, words = "if there is no such BENCH, ORDER or PLACE")
    static void alikeToOnNoBench(Check check) {
        check.bounds("alikeTo bench", 0, 1, 1, 1, Check.NO_INDEX, AskedEdges::twoAndOne, (x, bench) -> x.alikeTo(bench, 0, 0));
    }

    @Sentence(promise = 33, words = "if there is no such BENCH, ORDER or PLACE")
    static void alikeToByNoOrder(Check check) {
        check.bounds("alikeTo order", 0, 1, 9, 1, Check.NO_INDEX, AskedEdges::twoAndOne, (x, order) -> x.alikeTo(0, order, 0));
    }

    @Sentence(promise = 33, words = "if there is no such BENCH, ORDER or PLACE")
    static void alikeToOnNoPlace(Check check) {
        check.bounds("alikeTo place", 0, 1, 1, 1, Check.NO_INDEX, AskedEdges::twoAndOne, (x, place) -> x.alikeTo(0, 0, place));
        check.bounds("alikeTo place of sixteen", 0, 16, 15, 16, Check.NO_INDEX, () -> Check.laid(THINGS_16),
                (x, place) -> x.alikeTo(0, 0, place));
        check.bounds("alikeTo place, refused", 0, -9, 2, -9, Check.NO_INDEX, AskedEdges::three,
                (x, place) -> x.alikeTo(0, 0, place));
        Orderbench empty = Check.fresh();
        check.thrown("alikeTo of none", Check.NO_INDEX, empty, () -> empty.alikeTo(0, 0, 0));
    }

    // ---- promise 34

    @Sentence(promise = 34, words = "Returns how many there stand ahead of what lies there")
    static void aheadOfFromNoneToFifteen(Check check) {
        asksAll(check, new String[] {"3b"}, "w n~ w[ <", 0, x -> x.aheadOf(0, 3, 0));
        asksAll(check, new String[] {THINGS_16}, "w n~ w[ <", 0, x -> x.aheadOf(0, 3, 15));
        asksAll(check, new String[] {UNLIKE_16}, "n b~ n[", 15, x -> x.aheadOf(0, 3, 15));
        asksAll(check, new String[] {UNLIKE_16}, "n b~ n]", 0, x -> x.aheadOf(0, 3, 0));
        asksAll(check, new String[] {UNLIKE_16}, "w", 14, x -> x.aheadOf(0, 3, 15));
        asksAll(check, new String[] {UNLIKE_16}, "l t~ p", 8, x -> x.aheadOf(0, 3, 15));
        asks(check, "3b 3c 2b 3a 9f", "w", 1, x -> x.aheadOf(0, 3, 3));
        asks(check, "3b 3c 2b 3a 9f", "w~", 1, x -> x.aheadOf(0, 3, 3));
    }

    @Sentence(promise = 34, words = "Returns how many there stand ahead of what lies there")
    static void aheadOfWithNothings(Check check) {
        asksAll(check, new String[] {"-"}, "w[ w] < >", 0, x -> x.aheadOf(0, 3, 0));
        asksAll(check, new String[] {NOTHINGS_16}, "w[ w] < >", 0, x -> x.aheadOf(0, 3, 15));
        asksAll(check, new String[] {"- 3b 1a -"}, "w[ <", 0, x -> x.aheadOf(0, 3, 3));
        asksAll(check, new String[] {"- 3b 1a -"}, "w] >", 2, x -> x.aheadOf(0, 3, 0));
        asksAll(check, new String[] {"- 3b 1a -"}, "w[", 3, x -> x.aheadOf(0, 3, 1));
        asksAll(check, new String[] {"- 3b 1a -"}, "<", 2, x -> x.aheadOf(0, 3, 1));
        asksAll(check, new String[] {THINGS_AND_A_NOTHING}, "w] >", 15, x -> x.aheadOf(0, 3, 15));
    }

    @Sentence(promise = 34, words = "REFUSED likewise.")
    static void aheadOfRefused(Check check) {
        String[] all = {"-", "- -", "- 3b", "3b -", NOTHINGS_16, THINGS_AND_A_NOTHING, A_NOTHING_AND_THINGS};
        asksAll(check, all, "w n~", -9, x -> x.aheadOf(0, 3, 0));
        asksAll(check, all, "w n~", -9, x -> x.aheadOf(0, 3, x.size(0) - 1));
    }

    @Sentence(promise = 34, words = "if there is no such BENCH, ORDER or PLACE")
    static void aheadOfOnNoBench(Check check) {
        check.bounds("aheadOf bench", 0, 0, 1, 0, Check.NO_INDEX, AskedEdges::twoAndOne, (x, bench) -> x.aheadOf(bench, 0, 0));
    }

    @Sentence(promise = 34, words = "if there is no such BENCH, ORDER or PLACE")
    static void aheadOfByNoOrder(Check check) {
        check.bounds("aheadOf order", 0, 1, 9, 1, Check.NO_INDEX, AskedEdges::twoAndOne, (x, order) -> x.aheadOf(0, order, 1));
    }

    @Sentence(promise = 34, words = "if there is no such BENCH, ORDER or PLACE")
    static void aheadOfNoPlace(Check check) {
        check.bounds("aheadOf place", 0, 0, 1, 1, Check.NO_INDEX, AskedEdges::twoAndOne, (x, place) -> x.aheadOf(0, 0, place));
        check.bounds("aheadOf place of sixteen", 0, 0, 15, 14, Check.NO_INDEX, () -> Check.laid(UNLIKE_16),
                (x, place) -> x.aheadOf(0, 0, place));
        check.bounds("aheadOf place, refused", 0, -9, 2, -9, Check.NO_INDEX, AskedEdges::three,
                (x, place) -> x.aheadOf(0, 0, place));
        Orderbench empty = Check.fresh();
        check.thrown("aheadOf of none", Check.NO_INDEX, empty, () -> empty.aheadOf(0, 0, 0));
    }
}
