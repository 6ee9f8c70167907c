/** The boundaries of promises 1 to 10. */
final class BenchEdges {
    private static final String UNLIKE_16 = "0a 0b 1a 1b 2a 2b 3a 3b 4a 4b 5a 5b 6a 6b 7a 7b";
    private static final String FALLING_16 = "7b 7a 6b 6a 5b 5a 4b 4a 3b 3a 2b 2a 1b 1a 0b 0a";
    private static final String NOTHINGS_16 = "- ".repeat(16);
    private static final String THINGS_16 = "3b ".repeat(16);

    private BenchEdges() {
    }

    private static Orderbench full() {
        return Check.laid(THINGS_16);
    }

    private static Orderbench three() {
        return Check.laid("3b - 1a");
    }

    /** The BENCHES 0 and 1 have two PLACES and one. */
    private static Orderbench twoAndOne() {
        return Check.lay(Check.laid("3b 1a"), 1, "-");
    }

    // ---- promise 1

    @Sentence(promise = 1, words = "Creates empty benches.")
    static void newBenchesHaveNoPlaces(Check check) {
        for (int bench = 0; bench < 2; bench++) {
            check.due("size", 0, Check.fresh().size(bench));
            check.due("text", "", Check.fresh().text(bench));
            check.due("nothings", 0, Check.fresh().nothings(bench));
            int on = bench;
            Orderbench x = Check.fresh();
            check.thrown("its place 0", Check.NO_INDEX, x, () -> x.thing(on, 0));
        }
    }

    @Sentence(promise = 1, words = "Creates empty benches.")
    static void newObjectsHaveCountedNothing(Check check) {
        for (int what = 0; what < 6; what++) {
            check.due("house " + what, 0, Check.fresh().house(what));
        }
        check.due("the first number", 0, Check.fresh().lay(0, 0, 0));
        check.due("the first knock", 1, Check.fresh().knock());
    }

    @Sentence(promise = 1, words = "Creates empty benches.")
    static void objectsShareNothing(Check check) {
        Orderbench x = Check.fresh();
        Orderbench y = full();
        Check.make(y, 0, "<");
        y.knock();
        y.compare(0, 0, 0, 1);
        check.due("the other one's state", Check.state(Check.fresh()), Check.state(x));
    }

    // ---- promise 2

    @Sentence(promise = 2, words = "A THING is laid behind all PLACES.")
    static void layBehindNoneOneAndFifteen(Check check) {
        Orderbench x = Check.fresh();
        x.lay(0, 3, 1);
        check.due("behind none", "3b#0", x.text(0));
        x.lay(0, 1, 0);
        check.due("behind one", "3b#0 1a#1", x.text(0));
        Orderbench y = Check.laid("- ".repeat(15));
        y.lay(0, 9, 5);
        check.due("behind fifteen nothings", "- ".repeat(15).concat("9f#0"), y.text(0));
    }

    @Sentence(promise = 2, words = "Returns its NUMBER.")
    static void numbersAreNotUsedAgain(Check check) {
        Orderbench x = Check.fresh();
        check.due("the first", 0, x.lay(1, 3, 1));
        x.take(1, 0);
        check.due("behind take", 1, x.lay(1, 3, 1));
        x.clear(1);
        check.due("behind clear", 2, x.lay(1, 3, 1));
        x.copy(1);
        check.due("behind copy", 3, x.lay(0, 3, 1));
        x.layNothing(0);
        check.due("behind layNothing", 4, x.lay(0, 3, 1));
        x.fill(0, 8, 0, 1);
        check.due("behind seven of fill", 12, x.lay(0, 3, 1));
        check.thrown("a wrong one", Check.NO_ARGUMENT, x, () -> x.lay(0, 3, 6));
        check.due("behind the wrong one", 13, x.lay(0, 3, 1));
    }

    @Sentence(promise = 2, words = "if there is no such BENCH")
    static void layOnNoBench(Check check) {
        check.bounds("lay on bench", 0, 0, 1, 0, Check.NO_INDEX, Check::fresh, (x, bench) -> x.lay(bench, 3, 1));
    }

    @Sentence(promise = 2, words = "if weight is not 0 to 9")
    static void layNoWeight(Check check) {
        check.bounds("lay weight", 0, 0, 9, 0, Check.NO_ARGUMENT, Check::fresh, (x, weight) -> x.lay(0, weight, 0));
    }

    @Sentence(promise = 2, words = "letter not 0 to 5")
    static void layNoLetter(Check check) {
        check.bounds("lay letter", 0, 0, 5, 0, Check.NO_ARGUMENT, Check::fresh, (x, letter) -> x.lay(0, 0, letter));
    }

    @Sentence(promise = 2, words = "Throws `IllegalStateException` if there are 16")
    static void layTheSixteenthAndOneMore(Check check) {
        for (String all : new String[] {"3b ", "- "}) {
            for (int on = 0; on < 2; on++) {
                int bench = on;
                Orderbench x = Check.lay(Check.fresh(), bench, all.repeat(15));
                int things = x.house(1);
                check.due("the sixteenth", things, x.lay(bench, 9, 5));
                check.due("sixteen places", 16, x.size(bench));
                check.thrown("one more", Check.NO_STATE, x, () -> x.lay(bench, 9, 5));
                check.due("on the other bench", things + 1, x.lay(1 - bench, 9, 5));
                x.take(bench, 0);
                check.due("where one was taken", things + 2, x.lay(bench, 9, 5));
            }
        }
    }

    @Sentence(promise = 2, words = "Throws `IllegalArgumentException` if weight is not 0 to 9, or letter not 0 to 5")
    static void layTheFirstNamedException(Check check) {
        Orderbench x = full();
        check.thrown("bench ahead of weight", Check.NO_INDEX, x, () -> x.lay(2, 10, 0));
        check.thrown("bench ahead of letter", Check.NO_INDEX, x, () -> x.lay(-1, 0, 6));
        check.thrown("weight ahead of full", Check.NO_ARGUMENT, x, () -> x.lay(0, -1, 0));
        check.thrown("letter ahead of full", Check.NO_ARGUMENT, x, () -> x.lay(0, 0, -1));
    }

    // ---- promise 3

    @Sentence(promise = 3, words = "NOTHING is laid behind all PLACES.")
    static void layNothingBehindNoneOneAndFifteen(Check check) {
        Orderbench x = Check.fresh();
        x.layNothing(1);
        check.due("behind none", "-", x.text(1));
        x.lay(1, 3, 1);
        x.layNothing(1);
        check.due("behind a thing", "- 3b#0 -", x.text(1));
        check.due("it takes no number", 1, x.lay(1, 3, 1));
        Orderbench y = Check.laid("3b ".repeat(15));
        y.layNothing(0);
        check.due("the sixteenth", "-", y.thing(0, 15));
    }

    @Sentence(promise = 3, words = "Returns how many PLACES there are then.")
    static void layNothingTellsPlaces(Check check) {
        Orderbench x = Check.laid("3b");
        Orderbench y = Check.fresh();
        for (int k = 1; k <= 16; k++) {
            check.due("of nothings alone", k, y.layNothing(0));
        }
        check.due("things count, too", 2, x.layNothing(0));
        check.due("the other bench does not count", 1, x.layNothing(1));
    }

    @Sentence(promise = 3, words = "if there is no such BENCH")
    static void layNothingOnNoBench(Check check) {
        check.bounds("layNothing on bench", 0, 1, 1, 1, Check.NO_INDEX, Check::fresh, (x, bench) -> x.layNothing(bench));
    }

    @Sentence(promise = 3, words = "Throws `IllegalStateException` if there are 16")
    static void layNothingOnAFullBench(Check check) {
        for (String all : new String[] {"3b ", "- "}) {
            for (int on = 0; on < 2; on++) {
                int bench = on;
                Orderbench x = Check.lay(Check.fresh(), bench, all.repeat(15));
                check.due("the sixteenth", 16, x.layNothing(bench));
                check.thrown("one more", Check.NO_STATE, x, () -> x.layNothing(bench));
                check.due("on the other bench", 1, x.layNothing(1 - bench));
                x.take(bench, 15);
                check.due("where one was taken", 16, x.layNothing(bench));
            }
        }
    }

    @Sentence(promise = 3, words = "Throws `IndexOutOfBoundsException` if there is no such BENCH")
    static void layNothingTheFirstNamedException(Check check) {
        Orderbench x = full();
        x.copy(0);
        check.thrown("bench ahead of full", Check.NO_INDEX, x, () -> x.layNothing(2));
        check.thrown("bench ahead of full", Check.NO_INDEX, x, () -> x.layNothing(-1));
    }

    // ---- promise 4

    @Sentence(promise = 4, words = "THINGS are laid one by one: for k of 0 to many - 1 with n = from + k * by")
    static void fillOfNoneOneAndSixteen(Check check) {
        Orderbench x = Check.laid("- 9f");
        check.due("none", 2, x.fill(0, 0, 99, 99));
        check.due("none is laid", "- 9f#0", x.text(0));
        check.due("one", 3, x.fill(0, 1, 13, 99));
        check.due("from alone tells of it", "- 9f#0 3b#1", x.text(0));
        check.due("sixteen", 16, x.fill(1, 16, 8, 8));
        check.due("each has the next number",
                "8c#2 6e#3 4a#4 2c#5 0e#6 8a#7 6c#8 4e#9 2a#10 0c#11 8e#12 6a#13 4c#14 2e#15 0a#16 8c#17", x.text(1));
    }

    @Sentence(promise = 4, words = "with n = from + k * by")
    static void fillByNoneAndByTheMost(Check check) {
        Orderbench x = Check.fresh();
        x.fill(0, 3, 12, 0);
        check.due("by 0", "2a#0 2a#1 2a#2", x.text(0));
        x.fill(1, 16, 99, 99);
        check.due("from 99 by 99",
                "9d#3 8a#4 7d#5 6a#6 - 4a#7 3d#8 2a#9 1d#10 0a#11 9d#12 8a#13 - 6a#14 5d#15 4a#16", x.text(1));
    }

    @Sentence(promise = 4, words = "the WEIGHT n modulo 10")
    static void fillWrapsTheWeight(Check check) {
        Orderbench x = Check.fresh();
        x.fill(0, 3, 9, 1);
        check.due("9, 10, 11", "9d#0 0e#1 1f#2", x.text(0));
        x.fill(1, 3, 98, 1);
        check.due("98, 99, 100", "8c#3 9d#4 0e#5", x.text(1));
    }

    @Sentence(promise = 4, words = "the LETTER n modulo 6")
    static void fillWrapsTheLetter(Check check) {
        Orderbench x = Check.fresh();
        x.fill(0, 2, 5, 1);
        check.due("5, 6", "5f#0 6a#1", x.text(0));
        x.fill(1, 4, 10, 1);
        check.due("10 to 13", "0e#2 1f#3 2a#4 3b#5", x.text(1));
    }

    @Sentence(promise = 4, words = "in the place of one with n modulo 8 of 7 NOTHING.")
    static void fillLaysNothings(Check check) {
        Orderbench x = Check.fresh();
        x.fill(0, 3, 6, 1);
        check.due("6, 7, 8", "6a#0 - 8c#1", x.text(0));
        x.fill(0, 3, 14, 1);
        check.due("14, 15, 16", "6a#0 - 8c#1 4c#2 - 6e#3", x.text(0));
        check.due("nothings alone", 16, x.fill(1, 16, 7, 8));
        check.due("no thing among them", 16, x.nothings(1));
        check.due("they take no number", 4, x.house(1));
        check.due("95 and 0 make one", "-", filled(1, 95, 0).text(0));
    }

    private static Orderbench filled(int many, int from, int by) {
        Orderbench x = Check.fresh();
        x.fill(0, many, from, by);
        return x;
    }

    @Sentence(promise = 4, words = "Returns how many PLACES there are then.")
    static void fillTellsPlaces(Check check) {
        Orderbench x = Check.laid("- 9f");
        check.due("none", 0, x.fill(1, 0, 0, 0));
        check.due("two and three", 5, x.fill(0, 3, 0, 0));
        check.due("five and eleven", 16, x.fill(0, 11, 7, 0));
        check.due("sixteen and none", 16, x.fill(0, 0, 0, 0));
    }

    @Sentence(promise = 4, words = "if there is no such BENCH")
    static void fillNoBench(Check check) {
        check.bounds("fill bench", 0, 2, 1, 2, Check.NO_INDEX, Check::fresh, (x, bench) -> x.fill(bench, 2, 0, 1));
    }

    @Sentence(promise = 4, words = "if many is not 0 to 16")
    static void fillNotSoMany(Check check) {
        check.bounds("fill many", 0, 0, 16, 16, Check.NO_ARGUMENT, Check::fresh, (x, many) -> x.fill(0, many, 0, 1));
    }

    @Sentence(promise = 4, words = "or from or by not 0 to 99")
    static void fillNotFromThere(Check check) {
        check.bounds("fill from", 0, 2, 99, 2, Check.NO_ARGUMENT, Check::fresh, (x, from) -> x.fill(0, 2, from, 1));
        check.bounds("fill none from", 0, 0, 99, 0, Check.NO_ARGUMENT, Check::fresh, (x, from) -> x.fill(0, 0, from, 1));
    }

    @Sentence(promise = 4, words = "or from or by not 0 to 99")
    static void fillNotBySoMuch(Check check) {
        check.bounds("fill by", 0, 2, 99, 2, Check.NO_ARGUMENT, Check::fresh, (x, by) -> x.fill(0, 2, 1, by));
        check.bounds("fill none by", 0, 0, 99, 0, Check.NO_ARGUMENT, Check::fresh, (x, by) -> x.fill(0, 0, 1, by));
    }

    @Sentence(promise = 4, words = "if there would be more than 16")
    static void fillUpToSixteenAndOneMore(Check check) {
        for (int there = 0; there <= 16; there++) {
            String texts = "- ".repeat(there);
            check.due("up to 16", 16, Check.laid(texts).fill(0, 16 - there, 0, 1));
            if (there > 0) {
                Orderbench x = Check.laid(texts);
                int tooMany = 17 - there;
                check.thrown("up to 17", Check.NO_STATE, x, () -> x.fill(0, tooMany, 0, 1));
                check.thrown("up to 17, nothings", Check.NO_STATE, x, () -> x.fill(0, tooMany, 7, 0));
            }
        }
    }

    @Sentence(promise = 4, words = "Throws `IllegalArgumentException` if many is not 0 to 16, or from or by not 0 to 99")
    static void fillTheFirstNamedException(Check check) {
        Orderbench x = full();
        check.thrown("bench ahead of many", Check.NO_INDEX, x, () -> x.fill(2, 17, 0, 0));
        check.thrown("bench ahead of from", Check.NO_INDEX, x, () -> x.fill(2, 0, 100, 0));
        check.thrown("bench ahead of by", Check.NO_INDEX, x, () -> x.fill(2, 0, 0, -1));
        check.thrown("many ahead of full", Check.NO_ARGUMENT, x, () -> x.fill(0, 17, 0, 0));
        check.thrown("from ahead of full", Check.NO_ARGUMENT, x, () -> x.fill(0, 16, -1, 0));
        check.thrown("by ahead of full", Check.NO_ARGUMENT, x, () -> x.fill(0, 16, 0, 100));
    }

    // ---- promise 5

    @Sentence(promise = 5, words = "What lies on a PLACE goes; those behind it move up.")
    static void takeTheFirstTheLastAndTheOnlyOne(Check check) {
        Orderbench x = three();
        x.take(0, 0);
        check.due("without the first", "- 1a#1", x.text(0));
        x.take(0, 1);
        check.due("without the last", "-", x.text(0));
        x.take(0, 0);
        check.due("without the only one", "", x.text(0));
        check.due("no place is left", 0, x.size(0));
    }

    @Sentence(promise = 5, words = "those behind it move up.")
    static void takeOfSixteen(Check check) {
        String[] all = "0a#0 0b#1 1a#2 1b#3 2a#4 2b#5 3a#6 3b#7 4a#8 4b#9 5a#10 5b#11 6a#12 6b#13 7a#14 7b#15".split(" ");
        for (int place = 0; place < 16; place++) {
            Orderbench x = Check.laid(UNLIKE_16);
            check.due("what is taken", all[place], x.take(0, place));
            StringBuilder left = new StringBuilder();
            for (int k = 0; k < 16; k++) {
                left.append(k == place ? "" : all[k].concat(" "));
            }
            check.due("what is left", left.toString().trim(), x.text(0));
            check.due("fifteen", 15, x.size(0));
        }
    }

    @Sentence(promise = 5, words = "Returns its text.")
    static void takeTellsTheText(Check check) {
        Orderbench x = three();
        check.due("a nothing", "-", x.take(0, 1));
        check.due("a thing", "1a#1", x.take(0, 1));
        check.due("the last one", "3b#0", x.take(0, 0));
    }

    @Sentence(promise = 5, words = "if there is no such BENCH or PLACE")
    static void takeFromNoBench(Check check) {
        check.bounds("take from bench", 0, "3b#0", 1, "-", Check.NO_INDEX, BenchEdges::twoAndOne,
                (x, bench) -> x.take(bench, 0));
    }

    @Sentence(promise = 5, words = "if there is no such BENCH or PLACE")
    static void takeFromNoPlace(Check check) {
        check.bounds("take place of three", 0, "3b#0", 2, "1a#1", Check.NO_INDEX, BenchEdges::three,
                (x, place) -> x.take(0, place));
        check.bounds("take place of one", 0, "-", 0, "-", Check.NO_INDEX, BenchEdges::twoAndOne,
                (x, place) -> x.take(1, place));
        check.bounds("take place of sixteen", 0, "3b#0", 15, "3b#15", Check.NO_INDEX, BenchEdges::full,
                (x, place) -> x.take(0, place));
        Orderbench empty = Check.fresh();
        check.thrown("take of no place", Check.NO_INDEX, empty, () -> empty.take(0, 0));
        Orderbench x = three();
        x.take(0, 0);
        check.thrown("take where no place is any more", Check.NO_INDEX, x, () -> x.take(0, 2));
    }

    // ---- promise 6

    @Sentence(promise = 6, words = "What lies on two PLACES changes places.")
    static void swapTheFirstAndTheLast(Check check) {
        Orderbench x = three();
        x.swap(0, 0, 2);
        check.due("two things", "1a#1 - 3b#0", x.text(0));
        x.swap(0, 2, 1);
        check.due("a thing and a nothing", "1a#1 3b#0 -", x.text(0));
        Orderbench y = full();
        y.swap(0, 15, 0);
        check.due("the first of sixteen", "3b#15", y.thing(0, 0));
        check.due("the last of sixteen", "3b#0", y.thing(0, 15));
    }

    @Sentence(promise = 6, words = "Returns 1 if both are unlike PLACES, otherwise 0.")
    static void swapTellsWhetherThePlacesAreUnlike(Check check) {
        Orderbench x = Check.laid("3b - 3b -");
        check.due("two places", 1, x.swap(0, 0, 1));
        check.due("of one weight and letter", 1, x.swap(0, 1, 2));
        check.due("two nothings", 1, x.swap(0, 0, 3));
        check.asked("the same place", 0, x, () -> x.swap(0, 2, 2));
        check.asked("the same place of a nothing", 0, x, () -> x.swap(0, 0, 0));
        Orderbench one = Check.laid("3b");
        check.asked("the only place", 0, one, () -> one.swap(0, 0, 0));
        check.due("it lies as it lay", "- 3b#1 3b#0 -", x.text(0));
    }

    @Sentence(promise = 6, words = "if there is no such BENCH or PLACE")
    static void swapOnNoBench(Check check) {
        check.bounds("swap on bench", 0, 0, 1, 0, Check.NO_INDEX, BenchEdges::twoAndOne, (x, bench) -> x.swap(bench, 0, 0));
    }

    @Sentence(promise = 6, words = "if there is no such BENCH or PLACE")
    static void swapNoPlace(Check check) {
        check.bounds("swap place of three", 0, 1, 2, 1, Check.NO_INDEX, BenchEdges::three, (x, place) -> x.swap(0, place, 1));
        check.bounds("swap other of three", 0, 1, 2, 1, Check.NO_INDEX, BenchEdges::three, (x, other) -> x.swap(0, 1, other));
        check.bounds("swap place of sixteen", 0, 1, 15, 1, Check.NO_INDEX, BenchEdges::full,
                (x, place) -> x.swap(0, place, 7));
        check.bounds("swap other of sixteen", 0, 1, 15, 1, Check.NO_INDEX, BenchEdges::full,
                (x, other) -> x.swap(0, 7, other));
        Orderbench empty = Check.fresh();
        check.thrown("swap of no place", Check.NO_INDEX, empty, () -> empty.swap(0, 0, 0));
        Orderbench x = three();
        check.thrown("swap of the same that is none", Check.NO_INDEX, x, () -> x.swap(0, 3, 3));
    }

    // ---- promise 7

    @Sentence(promise = 7, words = "All goes.")
    static void clearOfNoneOneAndSixteen(Check check) {
        for (String texts : new String[] {"", "3b", "-", THINGS_16, NOTHINGS_16}) {
            Orderbench x = Check.laid(texts);
            x.copy(0);
            String other = x.text(1);
            x.clear(0);
            check.due("text", "", x.text(0));
            check.due("size", 0, x.size(0));
            check.due("nothings", 0, x.nothings(0));
            check.due("the other one stays", other, x.text(1));
            check.thrown("its place 0", Check.NO_INDEX, x, () -> x.thing(0, 0));
            check.due("there are sixteen again", 16, x.fill(0, 16, 0, 1));
        }
    }

    @Sentence(promise = 7, words = "Returns how many PLACES there were.")
    static void clearTellsPlaces(Check check) {
        check.due("none", 0, Check.fresh().clear(0));
        check.due("one", 1, Check.laid("3b").clear(0));
        check.due("one nothing", 1, Check.laid("-").clear(0));
        check.due("three", 3, three().clear(0));
        check.due("sixteen", 16, full().clear(0));
    }

    @Sentence(promise = 7, words = "if there is no such BENCH")
    static void clearNoBench(Check check) {
        check.bounds("clear bench", 0, 2, 1, 1, Check.NO_INDEX, BenchEdges::twoAndOne, (x, bench) -> x.clear(bench));
    }

    // ---- promise 8

    @Sentence(promise = 8, words = "The other BENCH becomes as this one (the same THINGS, in the same sequence).")
    static void copyOverEachOther(Check check) {
        String[] all = {"", "3b", "-", "3b - 1a", THINGS_16, NOTHINGS_16, FALLING_16};
        for (String one : all) {
            for (String other : all) {
                for (int bench = 0; bench < 2; bench++) {
                    Orderbench x = Check.lay(Check.fresh(), bench, one);
                    Check.lay(x, 1 - bench, other);
                    String text = x.text(bench);
                    int laid = x.house(1);
                    x.copy(bench);
                    check.due("the other one", text, x.text(1 - bench));
                    check.due("this one", text, x.text(bench));
                    check.due("nothing was laid", laid, x.house(1));
                }
            }
        }
    }

    @Sentence(promise = 8, words = "The other BENCH becomes as this one")
    static void copiesDoNotFollow(Check check) {
        Orderbench x = three();
        x.copy(0);
        x.reverse(0);
        check.due("the copy stays", "3b#0 - 1a#1", x.text(1));
        x.copy(1);
        x.sort(1, 0);
        x.clear(1);
        check.due("the copied one stays", "3b#0 - 1a#1", x.text(0));
    }

    @Sentence(promise = 8, words = "Returns how many PLACES there are.")
    static void copyTellsPlaces(Check check) {
        check.due("none", 0, Check.fresh().copy(0));
        check.due("none over three", 0, three().copy(1));
        check.due("one", 1, Check.laid("-").copy(0));
        check.due("three", 3, three().copy(0));
        check.due("sixteen", 16, full().copy(0));
    }

    @Sentence(promise = 8, words = "if there is no such BENCH")
    static void copyNoBench(Check check) {
        check.bounds("copy bench", 0, 2, 1, 1, Check.NO_INDEX, BenchEdges::twoAndOne, (x, bench) -> x.copy(bench));
    }

    // ---- promise 9

    private static void sorts(Check check, String texts, String steps, int want, String text) {
        Orderbench x = Check.with(texts, steps);
        check.due(texts + " sort by " + steps, want, x.sort(0, 3));
        check.due(texts + " sorted by " + steps, text, x.text(0));
        check.due(texts + " not refused by " + steps, 0, x.house(3));
    }

    @Sentence(promise = 9, words = "A BENCH is sorted by an ORDER.")
    static void sortNoPlaceAndOnePlace(Check check) {
        for (String steps : "w < w]".split(" ")) {
            sorts(check, "", steps, 0, "");
            sorts(check, "3b", steps, 0, "3b#0");
            sorts(check, "-", steps, 0, "-");
        }
    }

    @Sentence(promise = 9, words = "A BENCH is sorted by an ORDER.")
    static void sortSixteen(Check check) {
        String rising = "0a#15 0b#14 1a#13 1b#12 2a#11 2b#10 3a#9 3b#8 4a#7 4b#6 5a#5 5b#4 6a#3 6b#2 7a#1 7b#0";
        sorts(check, FALLING_16, "n", 16, rising);
        sorts(check, FALLING_16, "n[", 16, rising);
        sorts(check, FALLING_16, "b~", 16, rising);
        String asLaid = Check.laid(FALLING_16).text(0);
        sorts(check, FALLING_16, "b", 0, asLaid);
        sorts(check, FALLING_16, "<", 0, asLaid);
        sorts(check, THINGS_16, "b", 0, full().text(0));
        sorts(check, NOTHINGS_16, "w]", 0, NOTHINGS_16.trim());
    }

    @Sentence(promise = 9, words = "A BENCH is sorted by an ORDER.")
    static void sortSixteenWithANothingAtAnEnd(Check check) {
        String things = "3b#0 3b#1 3b#2 3b#3 3b#4 3b#5 3b#6 3b#7 3b#8 3b#9 3b#10 3b#11 3b#12 3b#13 3b#14";
        sorts(check, "3b ".repeat(15).concat("-"), "w[", 16, "- ".concat(things));
        sorts(check, "3b ".repeat(15).concat("-"), "w]", 0, things.concat(" -"));
        sorts(check, "- ".concat("3b ".repeat(15)), "w[", 0, "- ".concat(things));
        sorts(check, "- ".concat("3b ".repeat(15)), "w]", 16, things.concat(" -"));
    }

    @Sentence(promise = 9, words = "Returns how many PLACES have another THING or NOTHING then")
    static void sortTellsUnlikePlaces(Check check) {
        sorts(check, "1a 3b", "w", 0, "1a#0 3b#1");
        sorts(check, "3b 1a", "w", 2, "1a#1 3b#0");
        sorts(check, "4a 3b 3b", "w", 3, "3b#1 3b#2 4a#0");
        sorts(check, "4a 3b 2c", "w", 2, "2c#2 3b#1 4a#0");
        sorts(check, "3b 3b 2c", "n", 3, "2c#2 3b#0 3b#1");
        sorts(check, "- 3b", "w]", 2, "3b#0 -");
    }

    @Sentence(promise = 9, words = "(NOTHINGS are like each other)")
    static void sortTellsNothingsAsOne(Check check) {
        sorts(check, "3b - -", "w[", 2, "- - 3b#0");
        sorts(check, "- - 3b", "w]", 2, "3b#0 - -");
        sorts(check, "- 3b -", "w[", 2, "- - 3b#0");
        sorts(check, "- 3b 1a -", "w[", 2, "- - 1a#1 3b#0");
        sorts(check, "- -", "<", 0, "- -");
    }

    @Sentence(promise = 9, words = "REFUSED if the ORDER does not TAKE it.")
    static void sortRefused(Check check) {
        for (String texts : new String[] {"- -", "- 3b", "3b -", "1a 2a -", NOTHINGS_16, "3b ".repeat(15).concat("-")}) {
            for (String steps : "w n~".split(" ")) {
                Orderbench x = Check.with(texts, steps);
                check.refused(texts + " sort by " + steps, x, () -> x.sort(0, 3));
            }
        }
    }

    @Sentence(promise = 9, words = "if there is no such BENCH or ORDER")
    static void sortNoBench(Check check) {
        check.bounds("sort bench", 0, 2, 1, 0, Check.NO_INDEX, BenchEdges::twoAndOne, (x, bench) -> x.sort(bench, 0));
    }

    @Sentence(promise = 9, words = "if there is no such BENCH or ORDER")
    static void sortByNoOrder(Check check) {
        check.bounds("sort by order", 0, 2, 9, 2, Check.NO_INDEX, BenchEdges::twoAndOne, (x, order) -> x.sort(0, order));
        check.bounds("sort no place by order", 0, 0, 9, 0, Check.NO_INDEX, Check::fresh, (x, order) -> x.sort(0, order));
    }

    // ---- promise 10

    private static void reverses(Check check, String texts, int want, String text) {
        Orderbench x = Check.laid(texts);
        String before = x.text(0);
        check.due(texts + " reverse", want, x.reverse(0));
        check.due(texts + " reversed", text, x.text(0));
        check.due(texts + " reverse again", want, x.reverse(0));
        check.due(texts + " reversed again", before, x.text(0));
    }

    @Sentence(promise = 10, words = "What lies on the first PLACE lies on the last one, and so on.")
    static void reverseNoneOneTwoThreeSixteen(Check check) {
        reverses(check, "", 0, "");
        reverses(check, "3b", 1, "3b#0");
        reverses(check, "-", 1, "-");
        reverses(check, "3b -", 2, "- 3b#0");
        reverses(check, "3b - 1a", 3, "1a#1 - 3b#0");
        reverses(check, "- 2c 1a", 3, "1a#1 2c#0 -");
        reverses(check, NOTHINGS_16, 16, NOTHINGS_16.trim());
        reverses(check, FALLING_16, 16, "0a#15 0b#14 1a#13 1b#12 2a#11 2b#10 3a#9 3b#8 4a#7 4b#6 5a#5 5b#4 6a#3 6b#2 7a#1 7b#0");
        reverses(check, "3b ".repeat(14).concat("- 1a"), 16,
                "1a#14 - 3b#13 3b#12 3b#11 3b#10 3b#9 3b#8 3b#7 3b#6 3b#5 3b#4 3b#3 3b#2 3b#1 3b#0");
    }

    @Sentence(promise = 10, words = "Returns how many PLACES there are.")
    static void reverseTellsPlacesOfItsBench(Check check) {
        Orderbench x = twoAndOne();
        check.due("of bench 0", 2, x.reverse(0));
        check.due("of bench 1", 1, x.reverse(1));
        check.due("the other stays", "1a#1 3b#0", x.text(0));
    }

    @Sentence(promise = 10, words = "if there is no such BENCH")
    static void reverseNoBench(Check check) {
        check.bounds("reverse bench", 0, 2, 1, 1, Check.NO_INDEX, BenchEdges::twoAndOne, (x, bench) -> x.reverse(bench));
    }
}
