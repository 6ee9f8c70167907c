/** What the document names ahead of promise 1: "What it is" and the "Description". */
final class DescriptionEdges {
    private static final String UNLIKE_16 = "0a 0b 1a 1b 2a 2b 3a 3b 4a 4b 5a 5b 6a 6b 7a 7b";

    private DescriptionEdges() {
    }

    // ---- 512 calls

    @Sentence(promise = 0, words = "An object is used for at most 512 calls after it has been made")
    static void knocksUpToTheLastCall(Check check) {
        Orderbench x = Check.fresh();
        for (int k = 1; k < 512; k++) {
            x.knock();
        }
        check.due("knock, call 512", 512, x.knock());
    }

    @Sentence(promise = 0, words = "An object is used for at most 512 calls after it has been made")
    static void refusedUpToTheLastCall(Check check) {
        Orderbench x = Check.fresh();
        for (int k = 1; k < 512; k++) {
            x.least(k % 2, k % 10);
        }
        check.due("house(3), call 512", 511, x.house(3));
    }

    @Sentence(promise = 0, words = "An object is used for at most 512 calls after it has been made")
    static void theGreatestNumberOfARun(Check check) {
        Orderbench x = Check.fresh();
        for (int k = 1; k < 256; k++) {
            x.fill(0, 16, 0, 0);
            x.clear(0);
        }
        x.fill(1, 16, 90, 0);
        check.due("thing, call 512", "0a#4095", x.thing(1, 15));
    }

    @Sentence(promise = 0, words = "An object is used for at most 512 calls after it has been made")
    static void digestsUpToTheLastCall(Check check) {
        Orderbench x = Check.laid(UNLIKE_16);
        long first = x.digest();
        for (int k = 18; k < 512; k++) {
            x.digest();
        }
        check.due("digest, call 512", first, x.digest());
    }

    // ---- NONE, REFUSED, exceptions

    @Sentence(promise = 0, words = "NONE is -1.")
    static void noneIsMinusOne(Check check) {
        Orderbench x = Check.laid("3b");
        check.asked("room of an alike one", -1, x, () -> x.room(0, 0, 3, 0));
        check.due("ends of NONE", 1, x.ends(0, -1, false));
    }

    @Sentence(promise = 0, words = "REFUSED is -9, where a method names it")
    static void refusedIsMinusNine(Check check) {
        Orderbench x = Check.fresh();
        check.due("least of no place", -9, x.least(0, 0));
    }

    /** Each call that can be REFUSED, each time with house(3) as it was and 1 more behind it. */
    @Sentence(promise = 0, words = "nothing changes then but house() 3")
    static void refusedChangesOnlyHouse3(Check check) {
        Orderbench x = Check.with("3b - 1a", "w[");
        Check.lay(x, 1, "2c -");
        x.knock();
        check.refused("sort", x, () -> x.sort(0, 0));
        check.refused("together", x, () -> x.together(4, 3, 0));
        check.refused("compare", x, () -> x.compare(0, 0, 0, 1));
        check.refused("against", x, () -> x.against(0, 1, 1, 0, 1));
        check.refused("classes", x, () -> x.classes(0, 0));
        check.refused("least", x, () -> x.least(0, 0));
        check.refused("greatest", x, () -> x.greatest(0, 0));
        check.refused("found", x, () -> x.found(0, 0, 1, 1));
        check.refused("room", x, () -> x.room(0, 0, 1, 1));
        check.refused("alikeTo", x, () -> x.alikeTo(0, 0, 0));
        check.refused("aheadOf", x, () -> x.aheadOf(0, 0, 0));
        check.due("eleven were refused", 11, x.house(3));
    }

    @Sentence(promise = 0, words = "(exceptions go ahead of it)")
    static void exceptionsGoAheadOfRefused(Check check) {
        Orderbench x = Check.with("3b - 1a", "<");
        check.thrown("together, no order", Check.NO_INDEX, x, () -> x.together(10, 3, 0));
        check.thrown("compare, a nothing and no place", Check.NO_INDEX, x, () -> x.compare(0, 0, 1, 3));
        check.thrown("compare, no place and a nothing", Check.NO_INDEX, x, () -> x.compare(0, 0, -1, 1));
        check.thrown("against a nothing, no weight", Check.NO_ARGUMENT, x, () -> x.against(0, 10, 0, 0, 1));
        check.thrown("against a nothing, no letter", Check.NO_ARGUMENT, x, () -> x.against(0, 0, 6, 0, 1));
        check.thrown("found, no weight", Check.NO_ARGUMENT, x, () -> x.found(0, 0, -1, 0));
        check.thrown("found, no letter", Check.NO_ARGUMENT, x, () -> x.found(0, 0, 0, -1));
        check.thrown("room, no weight", Check.NO_ARGUMENT, x, () -> x.room(0, 0, 10, 0));
        check.thrown("room, no letter", Check.NO_ARGUMENT, x, () -> x.room(0, 0, 0, 6));
        check.thrown("alikeTo, no place", Check.NO_INDEX, x, () -> x.alikeTo(0, 0, 3));
        check.thrown("aheadOf, no place", Check.NO_INDEX, x, () -> x.aheadOf(0, 0, -1));
        check.thrown("least of no place, no order", Check.NO_INDEX, x, () -> x.least(1, 10));
        check.thrown("greatest of no place, no order", Check.NO_INDEX, x, () -> x.greatest(1, -1));
        Check.make(x, 3, Check.safeOf(37));
        check.thrown("together of a safe one, above 40", Check.NO_STATE, x, () -> x.together(4, 3, 0));
        check.due("none was refused", 0, x.house(3));
    }

    /** Each method that throws, on an object in which all that could change is there. */
    @Sentence(promise = 0, words = "A method that throws an exception changes nothing.")
    static void thrownChangesNothing(Check check) {
        Orderbench x = Check.with("3b - 1a 2c", Check.safeOf(40));
        Check.make(x, 4, Check.unsafeOf(40));
        Check.lay(x, 1, "- ".repeat(16));
        x.knock();
        x.least(0, 0);
        check.thrown("lay", Check.NO_STATE, x, () -> x.lay(1, 3, 3));
        check.thrown("lay", Check.NO_ARGUMENT, x, () -> x.lay(0, 3, 6));
        check.thrown("layNothing", Check.NO_STATE, x, () -> x.layNothing(1));
        check.thrown("fill", Check.NO_STATE, x, () -> x.fill(0, 13, 0, 1));
        check.thrown("fill", Check.NO_ARGUMENT, x, () -> x.fill(0, 1, 0, 100));
        check.thrown("take", Check.NO_INDEX, x, () -> x.take(0, 4));
        check.thrown("swap", Check.NO_INDEX, x, () -> x.swap(0, 0, 4));
        check.thrown("clear", Check.NO_INDEX, x, () -> x.clear(2));
        check.thrown("copy", Check.NO_INDEX, x, () -> x.copy(-1));
        check.thrown("sort", Check.NO_INDEX, x, () -> x.sort(2, 3));
        check.thrown("reverse", Check.NO_INDEX, x, () -> x.reverse(2));
        check.thrown("base", Check.NO_ARGUMENT, x, () -> x.base(3, 7));
        check.thrown("turn", Check.NO_STATE, x, () -> x.turn(0, 4));
        check.thrown("turn itself", Check.NO_STATE, x, () -> x.turn(4, 4));
        check.thrown("together", Check.NO_STATE, x, () -> x.together(0, 0, 3));
        check.thrown("ends", Check.NO_STATE, x, () -> x.ends(3, 3, true));
        check.thrown("keep", Check.NO_INDEX, x, () -> x.keep(0, 10));
        check.thrown("against", Check.NO_ARGUMENT, x, () -> x.against(0, 0, 6, 0, 0));
        check.thrown("found", Check.NO_ARGUMENT, x, () -> x.found(0, 0, 0, 6));
        check.thrown("room", Check.NO_ARGUMENT, x, () -> x.room(0, 0, 0, 6));
        check.thrown("house", Check.NO_ARGUMENT, x, () -> x.house(6));
    }

    @Sentence(promise = 0, words = "If several exceptions apply, the one that is named first is thrown.")
    static void theExceptionNamedFirstIsThrown(Check check) {
        Orderbench x = Check.with("- ".repeat(16), Check.unsafeOf(40));
        x.copy(0);
        check.thrown("lay, all three", Check.NO_INDEX, x, () -> x.lay(2, 10, 6));
        check.thrown("lay, bench and full", Check.NO_INDEX, x, () -> x.lay(2, 0, 0));
        check.thrown("lay, bench and weight", Check.NO_INDEX, x, () -> x.lay(-1, -1, 0));
        check.thrown("lay, letter and full", Check.NO_ARGUMENT, x, () -> x.lay(0, 0, 6));
        check.thrown("layNothing, bench and full", Check.NO_INDEX, x, () -> x.layNothing(2));
        check.thrown("fill, all three", Check.NO_INDEX, x, () -> x.fill(2, 17, 100, 100));
        check.thrown("fill, bench and full", Check.NO_INDEX, x, () -> x.fill(-1, 1, 0, 0));
        check.thrown("fill, many and full", Check.NO_ARGUMENT, x, () -> x.fill(0, 17, 0, 0));
        check.thrown("fill, from and full", Check.NO_ARGUMENT, x, () -> x.fill(0, 1, 100, 0));
        check.thrown("fill, by and full", Check.NO_ARGUMENT, x, () -> x.fill(0, 1, 0, -1));
        check.thrown("base, order and kind", Check.NO_INDEX, x, () -> x.base(10, 7));
        check.thrown("turn, order and size", Check.NO_INDEX, x, () -> x.turn(10, 3));
        check.thrown("together, order and size", Check.NO_INDEX, x, () -> x.together(-1, 3, 3));
        check.thrown("together, first and size", Check.NO_INDEX, x, () -> x.together(0, 10, 3));
        check.thrown("together, second and size", Check.NO_INDEX, x, () -> x.together(0, 3, -1));
        check.thrown("ends, order and size", Check.NO_INDEX, x, () -> x.ends(10, 3, true));
        check.thrown("against, order and weight", Check.NO_INDEX, x, () -> x.against(10, 10, 0, 0, 0));
        check.thrown("against, bench and letter", Check.NO_INDEX, x, () -> x.against(0, 0, 6, 2, 0));
        check.thrown("against, place and weight", Check.NO_INDEX, x, () -> x.against(0, -1, 0, 0, 16));
        check.thrown("found, bench and weight", Check.NO_INDEX, x, () -> x.found(2, 0, 10, 0));
        check.thrown("found, order and letter", Check.NO_INDEX, x, () -> x.found(0, 10, 0, -1));
        check.thrown("room, bench and letter", Check.NO_INDEX, x, () -> x.room(-1, 0, 0, 6));
        check.thrown("room, order and weight", Check.NO_INDEX, x, () -> x.room(0, -1, -1, 0));
    }

    // ---- things, benches

    @Sentence(promise = 0, words = "A THING has a WEIGHT (0 to 9), a LETTER (\"a\" to \"f\", numbers 0 to 5)")
    static void theLeastAndTheGreatestThing(Check check) {
        check.due("the least", "0a#0", Check.laid("0a").text(0));
        check.due("the greatest", "9f#0", Check.laid("9f").text(0));
        check.due("the letters", "1a#0 1b#1 1c#2 1d#3 1e#4 1f#5", Check.laid("1a 1b 1c 1d 1e 1f").text(0));
    }

    @Sentence(promise = 0, words = "THINGS are numbered from 0 on over all BENCHES, as they are laid.")
    static void numbersGoOverBothBenches(Check check) {
        Orderbench x = Check.fresh();
        check.due("the first, on bench 1", 0, x.lay(1, 3, 1));
        check.due("the second, on bench 0", 1, x.lay(0, 3, 1));
        x.layNothing(1);
        check.due("the third, behind a nothing", 2, x.lay(1, 3, 1));
        x.fill(0, 2, 6, 1);
        check.due("the fifth, behind one of fill", 4, x.lay(0, 3, 1));
    }

    @Sentence(promise = 0, words = "Its text is the WEIGHT, the LETTER, \"#\" and the NUMBER (\"3b#5\").")
    static void textsOfNumbersOfMoreSigns(Check check) {
        Orderbench x = Check.laid("3b ".repeat(16));
        check.due("one sign", "3b#9", x.thing(0, 9));
        check.due("two signs", "3b#10", x.thing(0, 10));
        for (int k = 0; k < 6; k++) {
            x.clear(0);
            x.fill(0, 16, 63, 0);
            x.clear(0);
            x.fill(0, 14, 61, 0);
        }
        check.due("the last of two signs", "1b#99", x.thing(0, 13));
        x.fill(0, 1, 90, 0);
        check.due("three signs", "0a#100", x.thing(0, 14));
    }

    @Sentence(promise = 0, words = "NOTHING is told as \"-\".")
    static void nothingIsADash(Check check) {
        Orderbench x = Check.laid("-");
        check.due("thing", "-", x.thing(0, 0));
        check.due("text", "-", x.text(0));
        check.due("take", "-", x.take(0, 0));
    }

    @Sentence(promise = 0, words = "have PLACES, numbered from 0 without gaps, at most 16 (none at first)")
    static void placesHaveNoGaps(Check check) {
        Orderbench x = Check.laid("3b - 1a");
        x.take(0, 1);
        check.due("0", "3b#0", x.thing(0, 0));
        check.due("1", "1a#1", x.thing(0, 1));
        check.thrown("2", Check.NO_INDEX, x, () -> x.thing(0, 2));
        x.fill(0, 14, 0, 1);
        check.due("15", "3b#14", x.thing(0, 15));
        check.thrown("16", Check.NO_INDEX, x, () -> x.thing(0, 16));
        check.thrown("a place more", Check.NO_STATE, x, () -> x.layNothing(0));
    }

    // ---- orders

    @Sentence(promise = 0, words = "ORDERS 0 to 9; each has a SHAPE; at first each is that of \"w\".")
    static void tenOrdersOfWeight(Check check) {
        Orderbench x = Check.laid("2a 1b");
        for (int order = 0; order < 10; order++) {
            check.due("shape " + order, "w", x.shape(order));
            check.due("it tells by weight", 1, x.compare(order, 0, 0, 1));
        }
        check.thrown("shape -1", Check.NO_INDEX, x, () -> x.shape(-1));
        check.thrown("shape 10", Check.NO_INDEX, x, () -> x.shape(10));
    }

    private static void tells(Check check, String steps, String two, int want) {
        Orderbench x = Check.with(two, steps);
        check.answers(steps + " of " + two, want, x, () -> x.compare(3, 0, 0, 1));
        check.answers(steps + " backwards of " + two, want == -9 ? -9 : -want, x, () -> x.compare(3, 0, 1, 0));
    }

    @Sentence(promise = 0, words = "\"w\": the lesser WEIGHT stands ahead.")
    static void byWeight(Check check) {
        tells(check, "w", "0f 9a", -1);
        tells(check, "w", "8f 9a", -1);
        tells(check, "w", "0f 1a", -1);
        tells(check, "w", "9a 9f", 0);
        tells(check, "w", "0a 0f", 0);
    }

    @Sentence(promise = 0, words = "\"l\": the earlier LETTER.")
    static void byLetter(Check check) {
        tells(check, "l", "9a 0f", -1);
        tells(check, "l", "9e 0f", -1);
        tells(check, "l", "9a 0b", -1);
        tells(check, "l", "9f 0f", 0);
        tells(check, "l", "9a 0a", 0);
    }

    @Sentence(promise = 0, words = "\"p\": an even WEIGHT ahead of an odd one.")
    static void evenAheadOfOdd(Check check) {
        tells(check, "p", "0a 9a", -1);
        tells(check, "p", "8f 1a", -1);
        tells(check, "p", "0a 8f", 0);
        tells(check, "p", "9f 1a", 0);
    }

    @Sentence(promise = 0, words = "\"n\": the lesser WEIGHT, with the same the earlier LETTER (that of the THINGS themselves).")
    static void byWeightThenLetter(Check check) {
        tells(check, "n", "0f 1a", -1);
        tells(check, "n", "8f 9a", -1);
        tells(check, "n", "9e 9f", -1);
        tells(check, "n", "0a 0b", -1);
        tells(check, "n", "0a 0a", 0);
        tells(check, "n", "9f 9f", 0);
    }

    @Sentence(promise = 0, words = "\"b\": the other way round of \"n\".")
    static void byWeightThenLetterBackwards(Check check) {
        tells(check, "b", "0f 1a", 1);
        tells(check, "b", "8f 9a", 1);
        tells(check, "b", "9e 9f", 1);
        tells(check, "b", "0a 0b", 1);
        tells(check, "b", "0a 0a", 0);
        tells(check, "b", "9f 9f", 0);
    }

    @Sentence(promise = 0, words = "\"d\": the lesser rest of the WEIGHT by 3.")
    static void byTheRestByThree(Check check) {
        String[] texts = {"0f", "1f", "2f", "3a", "4a", "5a", "6c", "7c", "8c", "9b"};
        for (int one = 0; one < 10; one++) {
            for (int other = 0; other < 10; other++) {
                tells(check, "d", texts[one].concat(" ").concat(texts[other]), Integer.compare(one % 3, other % 3));
            }
        }
    }

    @Sentence(promise = 0, words = "\"t\": the later LETTER.")
    static void byLaterLetter(Check check) {
        tells(check, "t", "9a 0f", 1);
        tells(check, "t", "9e 0f", 1);
        tells(check, "t", "0a 9b", 1);
        tells(check, "t", "9f 0f", 0);
    }

    @Sentence(promise = 0, words = "A BASE takes no NOTHING.")
    static void basesTakeNoNothing(Check check) {
        for (String base : "w l p n b d t".split(" ")) {
            tells(check, base, "- 3b", -9);
            tells(check, base, "- -", -9);
        }
    }

    @Sentence(promise = 0, words = "TURNED of an ORDER with the text o: \"o~\": what o tells, the other way round.")
    static void turnedOnceAndTwice(Check check) {
        tells(check, "n~", "3a 3b", 1);
        tells(check, "n~~", "3a 3b", -1);
        tells(check, "n~", "3a 3a", 0);
        tells(check, "n~", "- 3a", -9);
        tells(check, "n[~", "- 3a", 1);
        tells(check, "n]~", "- 3a", -1);
        tells(check, "n]~", "- -", 0);
        tells(check, Check.unsafeOf(40), "3a 4a", 1);
        tells(check, Check.unsafeOf(39), "3a 4a", -1);
    }

    @Sentence(promise = 0, words = "TOGETHER of two: \"(o p)\".")
    static void togetherTheSecondTellsOfAlikeOnes(Check check) {
        Orderbench x = Check.with("3b 3a 4a 3b", "l");
        check.due("its size", 5, x.together(4, 0, 3));
        check.due("its text", "(w l)", x.shape(4));
        check.due("the first tells", -1, x.compare(4, 0, 0, 2));
        check.due("the second tells", 1, x.compare(4, 0, 0, 1));
        check.due("both tell alike", 0, x.compare(4, 0, 0, 3));
    }

    @Sentence(promise = 0, words = "NOTHING FIRST \"[o\": NOTHINGS are ALIKE, and stand ahead of all THINGS; two THINGS as o tells.")
    static void nothingFirst(Check check) {
        tells(check, "w[", "- -", 0);
        tells(check, "w[", "- 0a", -1);
        tells(check, "w[", "- 9f", -1);
        tells(check, "b[", "- 9f", -1);
        tells(check, "w[", "3a 4a", -1);
        tells(check, "b[", "3a 3b", 1);
        tells(check, "w[", "3a 3b", 0);
    }

    @Sentence(promise = 0, words = "NOTHING LAST \"]o\": likewise, but they stand behind all THINGS.")
    static void nothingLast(Check check) {
        tells(check, "w]", "- -", 0);
        tells(check, "w]", "- 0a", 1);
        tells(check, "w]", "- 9f", 1);
        tells(check, "b]", "- 0a", 1);
        tells(check, "w]", "3a 4a", -1);
        tells(check, "b]", "3a 3b", 1);
        tells(check, "w]", "3a 3b", 0);
    }

    @Sentence(promise = 0, words = "NOTHINGS are ALIKE, and stand ahead of all THINGS; two THINGS as o tells.")
    static void endsOfASafeOneTellNothingsAnew(Check check) {
        tells(check, "w[]", "- 0a", 1);
        tells(check, "w][", "- 0a", -1);
        tells(check, "w[[", "- 0a", -1);
        tells(check, "w]~]", "- 0a", 1);
        tells(check, "<]", "- 0a", 1);
        tells(check, ">[", "- 0a", -1);
        tells(check, ">[", "3a 4b", 0);
    }

    @Sentence(promise = 0, words = "Without an o, \"[\" and \"]\": all THINGS are ALIKE.")
    static void endsWithoutAnO(Check check) {
        tells(check, "<", "0a 9f", 0);
        tells(check, "<", "- 0a", -1);
        tells(check, "<", "- -", 0);
        tells(check, ">", "0a 9f", 0);
        tells(check, ">", "- 9f", 1);
        tells(check, ">", "- -", 0);
        tells(check, "<~", "- 0a", 1);
    }

    // ---- SAFE

    @Sentence(promise = 0, words = "\"[\" and \"]\" ones are, others are if all of which they are made at once are")
    static void whatIsSafe(Check check) {
        for (String steps : "< > w[ w] <~ w[~ w[~~ w]~[".split(" ")) {
            check.due(steps, true, Check.with("", steps).isSafe(3));
        }
        for (String steps : "w l p n b d t w~ w~~".split(" ")) {
            check.due(steps, false, Check.with("", steps).isSafe(3));
        }
    }

    @Sentence(promise = 0, words = "\"(o p)\" if both are")
    static void togetherIsSafeIfBothAre(Check check) {
        Orderbench x = Check.with("- 3b", "w[");
        x.together(4, 3, 3);
        check.due("both", true, x.isSafe(4));
        x.together(5, 0, 3);
        check.due("the second one only", false, x.isSafe(5));
        x.together(6, 0, 0);
        check.due("neither", false, x.isSafe(6));
        x.ends(7, 5, true);
        check.due("made safe as a whole", true, x.isSafe(7));
        x.turn(8, 5);
        check.due("turned", false, x.isSafe(8));
    }

    @Sentence(promise = 0, words = "One that is not SAFE takes nothing beside a NOTHING, and no two NOTHINGS")
    static void whatAnUnsafeOneTakes(Check check) {
        for (String steps : "w n~ d~~".split(" ")) {
            tells(check, steps, "- 3b", -9);
            tells(check, steps, "- -", -9);
            tells(check, steps, "3b 3b", 0);
        }
        Orderbench x = Check.with("- 3b", "<");
        x.together(4, 0, 3);
        check.refused("(w [) of a nothing and a thing", x, () -> x.compare(4, 0, 0, 1));
        check.refused("(w [) of a nothing and itself", x, () -> x.compare(4, 0, 0, 0));
        check.asked("(w [) of a thing and itself", 0, x, () -> x.compare(4, 0, 1, 1));
    }

    @Sentence(promise = 0, words = "TOGETHER of a first one that is SAFE and a second one that is not can not be made.")
    static void togetherThatCanNotBeMade(Check check) {
        for (String first : "< > w[ w]~".split(" ")) {
            for (String second : "w n~".split(" ")) {
                Orderbench x = Check.with("", first);
                Check.make(x, 4, second);
                check.refused(first + " and " + second, x, () -> x.together(5, 3, 4));
                check.refused(first + " and " + second + ", as the first", x, () -> x.together(3, 3, 4));
                check.refused(first + " and " + second + ", as the second", x, () -> x.together(4, 3, 4));
            }
        }
    }

    // ---- SHAPES and SIZES

    @Sentence(promise = 0, words = "it does not change as these become others.")
    static void shapesDoNotFollow(Check check) {
        Orderbench x = Check.with("3b 1c", "l");
        x.turn(4, 3);
        x.together(5, 3, 4);
        x.ends(6, 3, false);
        x.keep(7, 3);
        Check.make(x, 3, "<");
        check.due("turned", "l~", x.shape(4));
        check.due("together", "(l l~)", x.shape(5));
        check.due("ends", "[l", x.shape(6));
        check.due("kept", "l", x.shape(7));
        check.due("turned tells", 1, x.compare(4, 0, 0, 1));
        check.due("turned is not safe", false, x.isSafe(4));
        check.due("together is not safe", false, x.isSafe(5));
    }

    @Sentence(promise = 0, words = "Its SIZE is how many signs its text has; the greatest is 40.")
    static void sizesAreTheLengthsOfTexts(Check check) {
        Orderbench x = Check.fresh();
        x.ends(1, -1, true);
        int[] sizes = {x.turn(2, 0), x.together(3, 2, 1), x.ends(4, 3, true), x.keep(5, 4), x.together(6, 5, 5)};
        for (int k = 0; k < sizes.length; k++) {
            check.due("size of " + x.shape(k + 2), x.shape(k + 2).length(), sizes[k]);
        }
        check.due("the last", "(](w~ ]) ](w~ ]))", x.shape(6));
    }

    @Sentence(promise = 0, words = "the greatest is 40.")
    static void shapesOf40InEachWay(Check check) {
        Orderbench x = Check.laid("2a 1a");
        Check.make(x, 1, Check.unsafeOf(39));
        check.due("turned, 40", 40, x.turn(2, 1));
        check.due("first, 40", 40, x.ends(3, 1, false));
        check.due("last, 40", 40, x.ends(4, 1, true));
        Check.make(x, 5, Check.unsafeOf(36));
        check.due("together, 40", 40, x.together(6, 5, 0));
        for (int order : new int[] {2, 3, 4, 6}) {
            check.due("text of 40", 40, x.shape(order).length());
            check.due("it tells", true, x.compare(order, 0, 0, 1) != 0);
            check.thrown("turned, 41", Check.NO_STATE, x, () -> x.turn(7, order));
            check.thrown("first, 41", Check.NO_STATE, x, () -> x.ends(7, order, false));
            check.thrown("last, 41", Check.NO_STATE, x, () -> x.ends(7, order, true));
        }
        Check.make(x, 5, Check.unsafeOf(37));
        check.thrown("together, 41", Check.NO_STATE, x, () -> x.together(7, 5, 0));
    }

    @Sentence(promise = 0, words = "the greatest is 40.")
    static void aShapeOf40IsTakenByEachCall(Check check) {
        Orderbench x = Check.with("1a 3b 3c 2d", Check.unsafeOf(40));
        check.asked("compare", 1, x, () -> x.compare(3, 0, 0, 1));
        check.asked("against", -1, x, () -> x.against(3, 9, 0, 0, 1));
        check.asked("isSorted", false, x, () -> x.isSorted(0, 3));
        check.refused("found", x, () -> x.found(0, 3, 1, 0));
        check.due("sort", 4, x.sort(0, 3));
        check.asked("text", "3b#1 3c#2 2d#3 1a#0", x, () -> x.text(0));
        check.asked("isSorted then", true, x, () -> x.isSorted(0, 3));
        check.asked("classes", 3, x, () -> x.classes(0, 3));
        check.asked("least", 2, x, () -> x.least(0, 3));
        check.asked("greatest", 1, x, () -> x.greatest(0, 3));
        check.asked("found then", 1, x, () -> x.found(0, 3, 2, 0));
        check.asked("room", 4, x, () -> x.room(0, 3, 0, 0));
        check.asked("alikeTo", 2, x, () -> x.alikeTo(0, 3, 1));
        check.asked("aheadOf", 3, x, () -> x.aheadOf(0, 3, 3));
        check.asked("isPreorder", true, x, () -> x.isPreorder(3, 0));
        check.asked("isTwice", true, x, () -> x.isTwice(0, 3, 3));
        x.turn(4, 0);
        check.asked("tellAlike", true, x, () -> x.tellAlike(3, 4, 0));
    }

    @Sentence(promise = 0, words = "the greatest is 40.")
    static void aSafeShapeOf40IsTakenByEachCall(Check check) {
        Orderbench x = Check.with("- 3b - 2d", Check.safeOf(40));
        check.asked("compare", 1, x, () -> x.compare(3, 0, 0, 1));
        check.asked("against", -1, x, () -> x.against(3, 9, 0, 0, 0));
        check.asked("isSorted", false, x, () -> x.isSorted(0, 3));
        check.refused("room", x, () -> x.room(0, 3, 1, 0));
        check.due("sort", 3, x.sort(0, 3));
        check.asked("text", "3b#0 2d#1 - -", x, () -> x.text(0));
        check.asked("isSorted then", true, x, () -> x.isSorted(0, 3));
        check.asked("classes", 2, x, () -> x.classes(0, 3));
        check.asked("found", 1, x, () -> x.found(0, 3, 9, 0));
        check.asked("room then", -1, x, () -> x.room(0, 3, 9, 0));
        check.asked("aheadOf", 2, x, () -> x.aheadOf(0, 3, 3));
        x.take(0, 0);
        check.asked("least", 1, x, () -> x.least(0, 3));
        check.asked("greatest", 2, x, () -> x.greatest(0, 3));
        check.asked("alikeTo", 2, x, () -> x.alikeTo(0, 3, 2));
        check.asked("isPreorder", true, x, () -> x.isPreorder(3, 0));
        check.asked("isTwice", true, x, () -> x.isTwice(0, 3, 3));
        x.ends(4, -1, true);
        check.asked("tellAlike", true, x, () -> x.tellAlike(3, 4, 0));
    }

    // ---- TAKES

    private static void sorts(Check check, String texts, String steps, boolean isTaken) {
        Orderbench x = Check.with(texts, steps);
        if (isTaken) {
            check.due(texts + " sorted by " + steps, true, x.sort(0, 3) >= 0 && x.isSorted(0, 3));
            check.due(texts + " not refused by " + steps, 0, x.house(3));
        } else {
            check.asked(texts + " is sorted by " + steps, false, x, () -> x.isSorted(0, 3));
            check.refused(texts + " sorted by " + steps, x, () -> x.sort(0, 3));
        }
    }

    @Sentence(promise = 0, words = "An ORDER TAKES a BENCH, if it is SAFE")
    static void safeOnesTakeAllBenches(Check check) {
        for (String steps : "< > w[ w]".split(" ")) {
            for (String texts : new String[] {"", "-", "3b", "- -", "3b -", "- ".repeat(16), UNLIKE_16}) {
                sorts(check, texts, steps, true);
            }
        }
    }

    @Sentence(promise = 0, words = "or no NOTHING lies there")
    static void unsafeOnesTakeThingsAlone(Check check) {
        sorts(check, "3b 2b", "w", true);
        sorts(check, UNLIKE_16, "b", true);
        sorts(check, "3b -", "w", false);
        sorts(check, "- 3b", "w", false);
        sorts(check, "- -", "w", false);
        sorts(check, "3b ".repeat(15).concat("-"), "w", false);
        sorts(check, "- ".concat("3b ".repeat(15)), "w", false);
        sorts(check, "- ".repeat(16), "w", false);
    }

    @Sentence(promise = 0, words = "or fewer than two PLACES are there.")
    static void unsafeOnesTakeOnePlace(Check check) {
        sorts(check, "", "w", true);
        sorts(check, "-", "w", true);
        sorts(check, "3b", "w", true);
    }
}
