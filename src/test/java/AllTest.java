/** Promises 35 to 38: what is asked of all. */
public final class AllTest {
    private static final Check check = new Check();

    public static void main(String[] args) {
        promise35House();
        promise35HouseCountsRefusals();
        promise36Knock();
        promise37IsSound();
        promise38Digest();
        promise38DigestCountsNothing();
        check.finish("AllTest");
    }

    private static void house(Orderbench x, int... due) {
        for (int what = 0; what < 6; what++) {
            int asked = what;
            check.asked("house " + what, due[what], x, () -> x.house(asked));
        }
    }

    private static void promise35House() {
        Orderbench x = Check.fresh();
        house(x, 0, 0, 0, 0, 0, 0);
        Check.lay(x, 0, "3b - 1a -");
        Check.lay(x, 1, "- 2a");
        house(x, 6, 3, 0, 0, 0, 3);
        x.copy(0);
        house(x, 8, 3, 0, 0, 0, 4);
        x.take(0, 1);
        x.clear(1);
        house(x, 3, 3, 0, 0, 0, 1);
        Check.make(x, 1, "w[");
        x.ends(2, -1, true);
        x.turn(9, 2);
        house(x, 3, 3, 3, 0, 0, 1);
        x.base(1, 0);
        x.knock();
        x.fill(1, 8, 0, 1);
        house(x, 11, 10, 2, 0, 1, 2);
        x.ends(0, -1, false);
        house(x, 11, 10, 3, 0, 1, 2);
        for (int wrong : new int[] {-1, 6, Integer.MIN_VALUE, Integer.MAX_VALUE}) {
            check.thrown("house " + wrong, Check.NO_ARGUMENT, x, () -> x.house(wrong));
        }
    }

    private static void promise35HouseCountsRefusals() {
        Orderbench x = Check.laid("3b - 1a");
        Check.make(x, 1, "w[");
        int told = 0;
        int[] answers = {
            x.sort(0, 0), x.together(2, 1, 0), x.compare(0, 0, 0, 1), x.against(0, 1, 1, 0, 1), x.classes(0, 0),
            x.least(0, 0), x.greatest(0, 0), x.found(0, 0, 1, 1), x.room(0, 0, 1, 1), x.alikeTo(0, 0, 0),
            x.aheadOf(0, 0, 0)
        };
        for (int answer : answers) {
            check.due("refused", -9, answer);
            told++;
        }
        check.due("each is counted once", told, x.house(3));
        x.isSorted(0, 0);
        x.isTwice(0, 0, 1);
        x.tellAlike(0, 1, 0);
        x.isPreorder(0, 0);
        x.isSound();
        x.digest();
        check.due("others count none", told, x.house(3));
        check.due("least of none", -9, x.least(1, 1));
        check.due("one more", told + 1, x.house(3));
        check.due("one that answers", 1, x.compare(0, 0, 0, 2));
        check.due("counts none", told + 1, x.house(3));
    }

    private static void promise36Knock() {
        Orderbench x = Check.fresh();
        for (int k = 1; k <= 5; k++) {
            check.due("knock", k, x.knock());
            check.due("house 4", k, x.house(4));
        }
        check.due("another object", 1, Check.fresh().knock());
    }

    private static void promise37IsSound() {
        Orderbench x = Check.fresh();
        check.asked("a new one", true, x, x::isSound);
        Check.make(x, 1, "w[");
        x.together(2, 0, 1);
        Check.make(x, 3, "b]~");
        Check.make(x, 4, "d~");
        Check.make(x, 5, "t");
        x.together(6, 4, 5);
        x.together(6, 6, 6);
        x.together(6, 6, 6);
        Check.make(x, 7, "l".concat("[~".repeat(19)));
        x.ends(8, -1, false);
        Check.make(x, 9, "p][~");
        for (int k = 0; k < 25; k++) {
            x.clear(k % 2);
            x.fill(k % 2, k % 17, k * 7 % 100, k * 13 % 100);
            x.base(0, k % 7);
            if (k % 3 == 0) {
                x.ends(0, 0, k % 2 == 0);
            }
            check.asked("filled " + k, true, x, x::isSound);
        }
        Orderbench alone = Check.laid("-");
        check.asked("a nothing alone", true, alone, alone::isSound);
    }

    private static long next(long d, long v) {
        return d * 31 + v;
    }

    private static long next(long d, String text) {
        for (char sign : text.toCharArray()) {
            d = next(d, sign);
        }
        return d;
    }

    /** The digest as the document words it, by the answers of the other methods. */
    private static long digestByWords(Orderbench x) {
        long d = 7773;
        for (int what = 0; what < 6; what++) {
            d = next(d, x.house(what));
        }
        for (int bench = 0; bench < 2; bench++) {
            d = next(d, x.text(bench));
            for (int order = 0; order < 10; order++) {
                d = next(d, x.isSorted(bench, order) ? 1 : 0);
                d = next(d, x.classes(bench, order));
                d = next(d, x.least(bench, order));
                d = next(d, x.greatest(bench, order));
            }
        }
        for (int order = 0; order < 10; order++) {
            d = next(d, x.shape(order));
            d = next(d, x.isSafe(order) ? 1 : 0);
        }
        return next(d, x.isSound() ? 1 : 0);
    }

    private static void digest(String which, Orderbench x) {
        long answered = x.digest();
        check.due("digest again, " + which, answered, x.digest());
        check.due("digest, " + which, digestByWords(x), answered);
    }

    private static void promise38Digest() {
        digest("a new one", Check.fresh());
        Orderbench x = Check.laid("3b 1a 9f");
        digest("things", x);
        x.sort(0, 0);
        digest("sorted", x);
        Orderbench y = Check.lay(Check.laid("3b 1a 9f"), 1, "5a 5b 2a 5c 9a 9b");
        digest("unlike numbers of least and greatest ones", y);
        y.layNothing(1);
        digest("a nothing", y);
        Orderbench z = Check.lay(Check.with("3b 1a 9f", "l["), 1, "5a 5b 2a -");
        z.together(9, 0, 3);
        digest("shapes", z);
        z.knock();
        z.fill(1, 9, 5, 9);
        digest("knocked and filled", z);
    }

    private static void promise38DigestCountsNothing() {
        Orderbench x = Check.laid("3b - 1a");
        String before = Check.state(x);
        for (int k = 0; k < 3; k++) {
            x.digest();
        }
        check.due("nothing is changed", before, Check.state(x));
        check.due("nothing is counted", 0, x.house(3));
    }
}
