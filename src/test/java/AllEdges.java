import java.math.BigInteger;
import java.util.ArrayList;
import java.util.List;

/** The boundaries of promises 35 to 38. */
final class AllEdges {
    private static final String FALLING_16 = "7b 7a 6b 6a 5b 5a 4b 4a 3b 3a 2b 2a 1b 1a 0b 0a";
    private static final String NOTHINGS_16 = "- ".repeat(16);

    private AllEdges() {
    }

    // ---- promise 35

    @Sentence(promise = 35, words = "0 PLACES of both BENCHES")
    static void houseOfPlacesFrom0To32(Check check) {
        Orderbench x = Check.fresh();
        check.asked("none", 0, x, () -> x.house(0));
        x.layNothing(1);
        check.asked("one, on bench 1", 1, x, () -> x.house(0));
        x.fill(0, 16, 0, 1);
        check.asked("sixteen and one", 17, x, () -> x.house(0));
        x.copy(0);
        check.asked("both full", 32, x, () -> x.house(0));
        x.take(0, 15);
        check.asked("one taken", 31, x, () -> x.house(0));
        x.clear(1);
        check.asked("bench 1 cleared", 15, x, () -> x.house(0));
        x.clear(0);
        check.asked("none again", 0, x, () -> x.house(0));
    }

    @Sentence(promise = 35, words = "1 how many THINGS were laid ever")
    static void houseOfThingsThatWereLaid(Check check) {
        Orderbench x = Check.fresh();
        check.asked("none", 0, x, () -> x.house(1));
        x.layNothing(0);
        check.asked("a nothing is none", 0, x, () -> x.house(1));
        x.lay(1, 3, 1);
        check.asked("one", 1, x, () -> x.house(1));
        x.fill(1, 9, 0, 1);
        check.asked("eight of nine", 9, x, () -> x.house(1));
        x.copy(1);
        check.asked("copies are not laid", 9, x, () -> x.house(1));
        x.take(1, 0);
        x.clear(0);
        x.clear(1);
        check.asked("ever", 9, x, () -> x.house(1));
        check.thrown("no thing", Check.NO_ARGUMENT, x, () -> x.lay(0, 10, 0));
        check.asked("that was not laid", 9, x, () -> x.house(1));
    }

    @Sentence(promise = 35, words = "2 how many ORDERS are SAFE")
    static void houseOfSafeOrdersFrom0To10(Check check) {
        Orderbench x = Check.fresh();
        for (int order = 0; order < 10; order++) {
            check.due("safe ones", order, x.house(2));
            x.ends(order, order % 3 == 0 ? -1 : order, order % 2 == 0);
        }
        check.asked("all", 10, x, () -> x.house(2));
        x.turn(0, 0);
        check.asked("all, one turned", 10, x, () -> x.house(2));
        x.base(9, 0);
        check.asked("but for the last", 9, x, () -> x.house(2));
        x.keep(0, 9);
        check.asked("but for the first, too", 8, x, () -> x.house(2));
        x.together(5, 9, 1);
        check.asked("and one of both kinds", 7, x, () -> x.house(2));
    }

    @Sentence(promise = 35, words = "3 how often REFUSED was told ever")
    static void houseOfRefusals(Check check) {
        Orderbench x = Check.with("3b - 1a", "<");
        check.asked("none", 0, x, () -> x.house(3));
        x.sort(0, 0);
        check.asked("sort", 1, x, () -> x.house(3));
        x.together(4, 3, 0);
        check.asked("together", 2, x, () -> x.house(3));
        x.least(1, 3);
        x.greatest(1, 3);
        x.least(1, 3);
        check.asked("the same once more", 5, x, () -> x.house(3));
        x.clear(0);
        x.base(3, 0);
        check.asked("ever", 5, x, () -> x.house(3));
        check.due("one that is not refused", 0, x.sort(0, 0));
        check.asked("counts none", 5, x, () -> x.house(3));
    }

    @Sentence(promise = 35, words = "3 how often REFUSED was told ever")
    static void houseCountsNoOtherAnswerAsRefused(Check check) {
        Orderbench x = Check.with("3b - 1a", "<");
        x.isSorted(0, 0);
        x.isTwice(0, 0, 3);
        x.tellAlike(0, 3, 0);
        x.isPreorder(0, 0);
        x.isSound();
        x.digest();
        check.due("what asks and tells no number", 0, x.house(3));
        x.compare(0, 0, 0, 2);
        x.against(0, 3, 1, 0, 0);
        x.room(1, 0, 1, 1);
        x.found(1, 0, 1, 1);
        check.due("what is answered", 0, x.house(3));
    }

    @Sentence(promise = 35, words = "4 how often one knocked")
    static void houseOfKnocks(Check check) {
        Orderbench x = Check.fresh();
        check.asked("none", 0, x, () -> x.house(4));
        x.knock();
        check.asked("one", 1, x, () -> x.house(4));
        x.knock();
        check.asked("two", 2, x, () -> x.house(4));
    }

    @Sentence(promise = 35, words = "5 how many NOTHINGS lie on both BENCHES")
    static void houseOfNothingsFrom0To32(Check check) {
        Orderbench x = Check.laid("3b");
        check.asked("none", 0, x, () -> x.house(5));
        x.layNothing(0);
        x.layNothing(1);
        check.asked("one on each", 2, x, () -> x.house(5));
        x.take(0, 0);
        check.asked("a thing taken", 2, x, () -> x.house(5));
        x.fill(1, 15, 7, 8);
        x.copy(1);
        check.asked("both full", 32, x, () -> x.house(5));
        x.take(1, 15);
        check.asked("one taken", 31, x, () -> x.house(5));
        x.clear(0);
        check.asked("bench 0 cleared", 15, x, () -> x.house(5));
    }

    @Sentence(promise = 35, words = "if what is not 0 to 5")
    static void houseOfNothingElse(Check check) {
        check.bounds("house", 0, 5, 5, 4, Check.NO_ARGUMENT, () -> Check.laid("3b - - - -"), (x, what) -> x.house(what));
    }

    @Sentence(promise = 35, words = "Returns that.")
    static void houseOfEachNumber(Check check) {
        int[] dues = {6, 8, 3, 2, 4, 1};
        for (int what = 0; what < dues.length; what++) {
            int asked = what;
            Orderbench x = withHouseNumbersUnlike();
            check.asked("house " + what, dues[what], x, () -> x.house(asked));
        }
    }

    // ---- promise 36

    @Sentence(promise = 36, words = "Returns how often ever, with this.")
    static void knockFromTheFirstOn(Check check) {
        Orderbench x = Check.fresh();
        check.due("the first", 1, x.knock());
        check.due("the second", 2, x.knock());
        x.clear(0);
        check.due("house counts it", 2, x.house(4));
        check.due("asked for is not knocked", 3, x.knock());
        check.due("on another object", 1, Check.fresh().knock());
    }

    @Sentence(promise = 36, words = "Knocks at the bench.")
    static void knockChangesNothingElse(Check check) {
        Orderbench x = Check.with("3b - 1a", "<");
        String texts = x.text(0).concat(x.text(1));
        long digest = x.digest();
        x.knock();
        check.due("benches", texts, x.text(0).concat(x.text(1)));
        check.due("all else", digest + DigestLayout.of(x).weightOfHouse(4), x.digest());
    }

    // ---- promise 37

    private static void isSound(Check check, String which, Orderbench x) {
        check.asked("isSound, ".concat(which), true, x, x::isSound);
    }

    @Sentence(promise = 37, words = "Returns whether all of this is so, of each ORDER and each BENCH")
    static void isSoundOfEachKindOfBench(Check check) {
        isSound(check, "a new one", Check.fresh());
        String[] all = {"3b", "-", "- -", "3b -", "- 3b", "3b - 1a -", NOTHINGS_16, "3b ".repeat(16), FALLING_16,
            "3b ".repeat(15).concat("-"), "5b 5a 4b 5a 4c 3b 5c 4a 3a 0f 5b"};
        for (String texts : all) {
            for (String steps : "w n~ b w[ l] < >".split(" ")) {
                Orderbench x = Check.with(texts, steps);
                isSound(check, texts + " by " + steps, x);
                x.keep(0, 3);
                x.base(3, 5);
                isSound(check, texts + " by order 0, " + steps, x);
                x.copy(0);
                isSound(check, texts + " on both by " + steps, x);
            }
        }
    }

    @Sentence(promise = 37, words = "TURNED twice it tells the same")
    static void isSoundOfShapesOf40(Check check) {
        Orderbench x = Check.with(FALLING_16, Check.unsafeOf(40));
        Check.make(x, 9, Check.safeOf(40));
        isSound(check, "40 signs, turned twice 42", x);
        x.layNothing(1);
        x.lay(1, 3, 1);
        isSound(check, "with a nothing", x);
    }

    @Sentence(promise = 37, words = "and isTwice() of it and the ORDER 0.")
    static void isSoundWhereTwoCanNotBeTogether(Check check) {
        Orderbench x = Check.with(FALLING_16, "<");
        Check.make(x, 4, Check.safeOf(40));
        Check.make(x, 0, Check.unsafeOf(40));
        isSound(check, "a safe one and the order 0 that is not, 80 signs", x);
        check.due("nothing was refused", 0, x.house(3));
    }

    // ---- promise 38

    /** How an object is made; made twice it is twice the same. */
    private static List<Check.Maker> makers() {
        List<Check.Maker> makers = new ArrayList<>();
        makers.add(Check::fresh);
        makers.add(() -> Check.laid("3b 1a 9f"));
        makers.add(() -> Check.lay(Check.with("- - 3b", "w["), 1, "5a 5b 2a 5c 9a 9b"));
        makers.add(() -> Check.lay(Check.with("-", ">"), 1, "3b -"));
        makers.add(AllEdges::withHouseNumbersUnlike);
        makers.add(AllEdges::withGreatNumbers);
        makers.add(() -> {
            Orderbench x = Check.lay(Check.with(NOTHINGS_16, Check.safeOf(40)), 1, FALLING_16);
            Check.make(x, 9, Check.unsafeOf(40));
            x.together(5, 0, 1);
            x.knock();
            return x;
        });
        return makers;
    }

    /** As many calls as leave those for the numbers of the digest. */
    private static Orderbench withGreatNumbers() {
        Orderbench x = Check.fresh();
        for (int k = 0; k < 130; k++) {
            x.fill(0, 16, 90, 0);
            x.clear(0);
        }
        x.fill(1, 16, 3, 7);
        for (int k = 0; k < 65; k++) {
            x.knock();
            x.least(0, 0);
        }
        return x;
    }

    /** house() of 0 to 5 is 6, 8, 3, 2, 4, 1. */
    private static Orderbench withHouseNumbersUnlike() {
        Orderbench x = Check.laid("9d 0b 1c");
        x.clear(0);
        Check.lay(x, 0, "3b - 1a");
        Check.lay(x, 1, "2a 4c 2d");
        x.ends(1, -1, false);
        x.ends(5, 0, true);
        x.turn(9, 1);
        x.sort(0, 0);
        x.compare(0, 0, 0, 1);
        for (int k = 0; k < 4; k++) {
            x.knock();
        }
        return x;
    }

    /** The numbers of which the document makes the digest, as it words them; asking may count as REFUSED. */
    private static List<Long> numbers(Orderbench x) {
        List<Long> numbers = new ArrayList<>();
        for (int what = 0; what < 6; what++) {
            numbers.add((long) x.house(what));
        }
        for (int bench = 0; bench < 2; bench++) {
            addSigns(numbers, x.text(bench));
            for (int order = 0; order < 10; order++) {
                numbers.add(x.isSorted(bench, order) ? 1L : 0L);
                numbers.add((long) x.classes(bench, order));
                numbers.add((long) x.least(bench, order));
                numbers.add((long) x.greatest(bench, order));
            }
        }
        for (int order = 0; order < 10; order++) {
            addSigns(numbers, x.shape(order));
            numbers.add(x.isSafe(order) ? 1L : 0L);
        }
        numbers.add(x.isSound() ? 1L : 0L);
        return numbers;
    }

    private static void addSigns(List<Long> numbers, String text) {
        for (char sign : text.toCharArray()) {
            numbers.add((long) sign);
        }
    }

    /** d without any wrap. */
    private static BigInteger exact(List<Long> numbers) {
        BigInteger d = BigInteger.valueOf(7773);
        for (long v : numbers) {
            d = d.multiply(BigInteger.valueOf(31)).add(BigInteger.valueOf(v));
        }
        return d;
    }

    @Sentence(promise = 38, words = "A number d starts with 7773; for each of the following numbers v, d becomes d * 31 + v")
    static void digestOfANewObject(Check check) {
        List<Long> numbers = new ArrayList<>(List.of(0L, 0L, 0L, 0L, 0L, 0L));
        for (int k = 0; k < 20; k++) {
            numbers.addAll(List.of(1L, 0L, -9L, -9L));
        }
        for (int k = 0; k < 10; k++) {
            numbers.addAll(List.of((long) 'w', 0L));
        }
        numbers.add(1L);
        Orderbench x = Check.fresh();
        check.asked("a new one", exact(numbers).longValue(), x, x::digest);
    }

    @Sentence(promise = 38, words = "Returns d.")
    static void digestOfTheSameIsTheSame(Check check) {
        for (Check.Maker maker : makers()) {
            Orderbench x = maker.make();
            long digest = x.digest();
            check.asked("asked again", digest, x, x::digest);
            check.due("of another object of the same calls", digest, maker.make().digest());
        }
    }

    @Sentence(promise = 38, words = "which wraps around as a 64-bit integer")
    static void digestWrapsAround(Check check) {
        int below = 0;
        int above = 0;
        for (Check.Maker maker : makers()) {
            BigInteger exact = exact(numbers(maker.make()));
            long digest = maker.make().digest();
            check.due("it is longer than 64 bits", true, exact.bitLength() > 64);
            check.due("its low 64 bits", exact.longValue(), digest);
            check.due("more than 32 of them", false, digest == (int) digest);
            below += digest < 0 ? 1 : 0;
            above += digest > 0 ? 1 : 0;
        }
        check.due("some are below 0", true, below > 0);
        check.due("some are above 0", true, above > 0);
    }

    @Sentence(promise = 38, words = "for each of the following numbers v, d becomes d * 31 + v")
    static void digestIsAnotherWithoutAnyOneNumber(Check check) {
        for (Check.Maker maker : makers()) {
            List<Long> numbers = numbers(maker.make());
            long digest = maker.make().digest();
            check.due("by all numbers", exact(numbers).longValue(), digest);
            for (int k = 0; k < numbers.size(); k++) {
                List<Long> others = new ArrayList<>(numbers);
                others.set(k, numbers.get(k) + 1);
                check.due("number " + k + " is seen", true, exact(others).longValue() != digest);
                others.remove(k);
                check.due("number " + k + " is not left out", true, exact(others).longValue() != digest);
            }
        }
    }

    @Sentence(promise = 38, words = "house() of 0 to 5")
    static void digestByHouseNumbersThatAreAllUnlike(Check check) {
        List<Long> numbers = numbers(withHouseNumbersUnlike());
        check.due("house", List.of(6L, 8L, 3L, 2L, 4L, 1L), numbers.subList(0, 6));
        check.due("digest", exact(numbers).longValue(), withHouseNumbersUnlike().digest());
    }

    @Sentence(promise = 38, words = "house() of 0 to 5")
    static void digestByHouseNumbersThatChangeAlone(Check check) {
        Orderbench x = Check.with("3b - 1a", "<");
        DigestLayout layout = DigestLayout.of(x);
        long before = x.digest();
        x.lay(1, 9, 5);
        x.take(1, 0);
        check.due("house(1)", before + layout.weightOfHouse(1), x.digest());
        before = x.digest();
        x.sort(0, 0);
        check.due("house(3)", before + layout.weightOfHouse(3), x.digest());
        before = x.digest();
        x.knock();
        check.due("house(4)", before + layout.weightOfHouse(4), x.digest());
    }

    /** "- - -" and "3b#10" have five signs both, so that all numbers stand on the same places. */
    @Sentence(promise = 38, words = "house() of 0 to 5")
    static void digestByPlacesAndNothings(Check check) {
        Orderbench nothings = withElevenLaid("- - -");
        Orderbench thing = withElevenLaid("3b");
        DigestLayout layout = DigestLayout.of(nothings);
        long grown = 2 * layout.weightOfHouse(0) + 3 * layout.weightOfHouse(5);
        for (int k = 0; k < 5; k++) {
            grown += ("- - -".charAt(k) - "3b#10".charAt(k)) * layout.weight(layout.text(0, k));
        }
        for (int order = 0; order < 10; order++) {
            grown += 2 * layout.weight(layout.told(0, order, DigestLayout.LEAST));
            grown += 2 * layout.weight(layout.told(0, order, DigestLayout.GREATEST));
        }
        check.due("texts of things", "3b#10", thing.text(0));
        check.due("house(0), house(5), signs, least and greatest", thing.digest() + grown, nothings.digest());
    }

    /** These lie on the BENCH 0, the last THING as number 10, and eleven THINGS were laid. */
    private static Orderbench withElevenLaid(String texts) {
        Orderbench x = allOrdersLike(Check.fresh(), ">");
        x.fill(1, 10, 0, 0);
        x.clear(1);
        Check.lay(x, 0, texts);
        x.fill(1, 11 - x.house(1), 0, 0);
        x.clear(1);
        return x;
    }

    private static Orderbench allOrdersLike(Orderbench x, String steps) {
        for (int order = 0; order < 10; order++) {
            Check.make(x, order, steps);
        }
        return x;
    }

    @Sentence(promise = 38, words = "BENCH by BENCH the codes of the signs of text()")
    static void digestBySignsOfTexts(Check check) {
        String[] texts = {"4b 3b", "3c 3b", "3b 4b", "3b 3c"};
        int[] signs = {0, 1, 5, 6};
        for (int bench = 0; bench < 2; bench++) {
            long before = allOrdersLike(Check.lay(Check.fresh(), bench, "3b 3b"), ">").digest();
            for (int k = 0; k < texts.length; k++) {
                Orderbench other = allOrdersLike(Check.lay(Check.fresh(), bench, texts[k]), ">");
                DigestLayout layout = DigestLayout.of(other);
                long due = before + layout.weight(layout.text(bench, signs[k]));
                check.due("sign " + signs[k] + " on bench " + bench, due, other.digest());
            }
        }
    }

    @Sentence(promise = 38, words = "BENCH by BENCH the codes of the signs of text()")
    static void digestByTheSequenceOfThings(Check check) {
        Orderbench x = allOrdersLike(Check.laid("3b 3b"), ">");
        DigestLayout layout = DigestLayout.of(x);
        long before = x.digest();
        x.swap(0, 0, 1);
        long grown = layout.weight(layout.text(0, 3)) - layout.weight(layout.text(0, 8));
        check.due("the numbers changed places", before + grown, x.digest());
    }

    /**
     * "[w~" is the text of two SHAPES, with NOTHING at the one end or at the other one: so an ORDER can become
     * one by which a BENCH is sorted, or has other least or greatest ones, and no other number changes.
     */
    private static void digestByWhatIsTold(Check check, String texts, int which, int grown) {
        for (int bench = 0; bench < 2; bench++) {
            for (int order = 0; order < 10; order++) {
                Orderbench x = Check.lay(Check.fresh(), bench, texts);
                Check.make(x, order, "w[~");
                long before = x.digest();
                Check.make(x, order, "w~[");
                DigestLayout layout = DigestLayout.of(x);
                long due = before + grown * layout.weight(layout.told(bench, order, which));
                check.due(texts + " on bench " + bench + " by order " + order, due, x.digest());
            }
        }
    }

    @Sentence(promise = 38, words = "then ORDER by ORDER 1 if isSorted(), otherwise 0")
    static void digestByIsSorted(Check check) {
        digestByWhatIsTold(check, "- 3b", DigestLayout.SORTED, 1);
        digestByWhatIsTold(check, "3b -", DigestLayout.SORTED, -1);
    }

    @Sentence(promise = 38, words = "least(), greatest()")
    static void digestByLeast(Check check) {
        digestByWhatIsTold(check, "3b 1a - 3c", DigestLayout.LEAST, -1);
    }

    @Sentence(promise = 38, words = "least(), greatest()")
    static void digestByGreatest(Check check) {
        digestByWhatIsTold(check, "3b 1a - 1c", DigestLayout.GREATEST, 1);
    }

    /** By "l" there is a class less than by "w", and all else but the sign is told alike. */
    @Sentence(promise = 38, words = "(by what classes(), least() and greatest() would tell, but nothing is counted)")
    static void digestByClasses(Check check) {
        for (int bench = 0; bench < 2; bench++) {
            for (int order = 0; order < 10; order++) {
                Orderbench x = Check.lay(Check.fresh(), bench, "4c 1a 2b 3b");
                long before = x.digest();
                x.base(order, 1);
                DigestLayout layout = DigestLayout.of(x);
                long grown = ('l' - 'w') * layout.weight(layout.shape(order, 0))
                        - layout.weight(layout.told(bench, order, DigestLayout.CLASSES));
                check.due("on bench " + bench + " by order " + order, before + grown, x.digest());
            }
        }
    }

    @Sentence(promise = 38, words = "(by what classes(), least() and greatest() would tell, but nothing is counted)")
    static void digestCountsNothing(Check check) {
        Orderbench x = Check.with("3b - 1a", "<");
        long digest = x.digest();
        check.due("nothing was refused", 0, x.house(3));
        check.due("the same again", digest, x.digest());
        x.least(1, 0);
        x.digest();
        check.due("but for the one", 1, x.house(3));
    }

    @Sentence(promise = 38, words = "ORDER by ORDER the codes of the signs of shape(), and 1 if isSafe(), otherwise 0")
    static void digestByShapesAndIsSafe(Check check) {
        for (int order = 0; order < 10; order++) {
            Orderbench x = Check.fresh();
            DigestLayout layout = DigestLayout.of(x);
            long before = x.digest();
            x.base(order, 6);
            long grown = ('t' - 'w') * layout.weight(layout.shape(order, 0));
            check.due("the sign of order " + order, before + grown, x.digest());
            x.ends(order, -1, true);
            grown = (']' - 'w') * layout.weight(layout.shape(order, 0)) + layout.weight(layout.safe(order))
                    + layout.weightOfHouse(2);
            check.due("order " + order + " is safe", before + grown, x.digest());
        }
    }

    @Sentence(promise = 38, words = "ORDER by ORDER the codes of the signs of shape()")
    static void digestByEachSignOfAShapeOf40(Check check) {
        Orderbench x = Check.with("", Check.unsafeOf(40));
        DigestLayout layout = DigestLayout.of(x);
        long before = x.digest();
        Check.make(x, 3, Check.unsafeOf(36));
        check.due("as long", 40, x.together(3, 0, 3));
        String is = x.shape(3);
        String was = "w".concat("~".repeat(39));
        long grown = 0;
        for (int k = 0; k < 40; k++) {
            grown += (is.charAt(k) - was.charAt(k)) * layout.weight(layout.shape(3, k));
        }
        check.due("each sign", before + grown, x.digest());
    }

    @Sentence(promise = 38, words = "1 if isSound(), otherwise 0.")
    static void digestEndsWithIsSound(Check check) {
        for (Check.Maker maker : makers()) {
            List<Long> numbers = numbers(maker.make());
            int last = numbers.size() - 1;
            check.due("isSound", 1L, numbers.get(last));
            long ahead = exact(numbers.subList(0, last)).longValue();
            check.due("the last number", 1L, maker.make().digest() - 31 * ahead);
        }
    }
}
