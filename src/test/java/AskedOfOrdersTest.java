/** Promises 16 to 21: what is asked of orders. */
public final class AskedOfOrdersTest {
    private static final Check check = new Check();

    public static void main(String[] args) {
        promise16Shape();
        promise17IsSafe();
        promise18CompareByBases();
        promise18CompareByMadeOnes();
        promise18CompareWithNothings();
        promise18CompareOfWrongOnes();
        promise19Against();
        promise20TellAlike();
        promise21IsPreorder();
        check.finish("AskedOfOrdersTest");
    }

    private static void promise16Shape() {
        Orderbench x = Check.fresh();
        Check.make(x, 1, "l~]");
        x.together(2, 0, 1);
        Check.make(x, 3, "t");
        x.together(4, 2, 3);
        x.turn(4, 4);
        x.ends(4, 4, false);
        check.asked("shape", "[((w ]l~) t)~", x, () -> x.shape(4));
        for (int none : Check.NO_ORDER) {
            check.thrown("shape order " + none, Check.NO_INDEX, x, () -> x.shape(none));
        }
    }

    private static void safe(String steps, boolean want) {
        Orderbench x = Check.fresh();
        Check.make(x, 9, steps);
        check.asked("isSafe of " + steps, want, x, () -> x.isSafe(9));
    }

    private static void promise17IsSafe() {
        for (String base : "w l p n b d t".split(" ")) {
            safe(base, false);
            safe(base.concat("~"), false);
            safe(base.concat("["), true);
            safe(base.concat("]"), true);
            safe(base.concat("]~~"), true);
            safe(base.concat("~]["), true);
        }
        Orderbench x = Check.fresh();
        x.ends(1, -1, false);
        x.ends(2, -1, true);
        check.due("[", true, x.isSafe(1));
        check.due("]", true, x.isSafe(2));
        x.together(3, 1, 2);
        check.due("([ ])", true, x.isSafe(3));
        x.together(4, 0, 2);
        check.due("(w ])", false, x.isSafe(4));
        x.ends(5, 4, true);
        check.due("](w ])", true, x.isSafe(5));
        for (int none : Check.NO_ORDER) {
            check.thrown("isSafe order " + none, Check.NO_INDEX, x, () -> x.isSafe(none));
        }
    }

    /** What the ORDER of these steps tells of two, and the other way round. */
    private static void tells(String steps, String two, int want) {
        Orderbench x = Check.laid(two);
        Check.make(x, 3, steps);
        check.asked(steps + " of " + two, want, x, () -> x.compare(3, 0, 0, 1));
        check.asked(steps + " backwards of " + two, -want, x, () -> x.compare(3, 0, 1, 0));
        check.asked(steps + " of one with itself", 0, x, () -> x.compare(3, 0, 0, 0));
    }

    private static void promise18CompareByBases() {
        tells("w", "3a 4a", -1);
        tells("w", "3f 4a", -1);
        tells("w", "0a 9a", -1);
        tells("w", "3a 3b", 0);
        tells("l", "3a 3b", -1);
        tells("l", "9a 0f", -1);
        tells("l", "9c 0c", 0);
        tells("p", "4a 3a", -1);
        tells("p", "0f 1a", -1);
        tells("p", "8f 2a", 0);
        tells("p", "9f 1a", 0);
        tells("n", "3f 4a", -1);
        tells("n", "3a 3b", -1);
        tells("n", "3b 3b", 0);
        tells("b", "3f 4a", 1);
        tells("b", "3a 3b", 1);
        tells("b", "3b 3b", 0);
        tells("d", "3a 1a", -1);
        tells("d", "1a 5a", -1);
        tells("d", "9a 2a", -1);
        tells("d", "7f 4a", 0);
        tells("d", "0f 9a", 0);
        tells("t", "3a 3b", 1);
        tells("t", "9a 0f", 1);
        tells("t", "9c 0c", 0);
    }

    private static void promise18CompareByMadeOnes() {
        tells("w~", "3a 4a", 1);
        tells("w~~", "3a 4a", -1);
        tells("w~", "3a 3b", 0);
        tells("w[", "3a 4a", -1);
        tells("w]", "3a 4a", -1);
        tells("w~]", "3a 4a", 1);
        tells("w]~", "3a 4a", 1);
        Orderbench x = Check.laid("3b 3a 4a 4b");
        x.base(1, 1);
        x.together(2, 0, 1);
        check.due("weight tells first", -1, x.compare(2, 0, 0, 2));
        check.due("alike by weight, by letter", 1, x.compare(2, 0, 0, 1));
        x.together(3, 1, 0);
        check.due("letter tells first", 1, x.compare(3, 0, 0, 2));
        check.due("alike by letter, by weight", -1, x.compare(3, 0, 0, 3));
        x.together(4, 0, 0);
        check.due("alike by both", 0, x.compare(4, 0, 0, 1));
        x.turn(5, 2);
        check.due("both are turned", -1, x.compare(5, 0, 0, 1));
        x.ends(6, -1, false);
        check.due("things are alike", 0, x.compare(6, 0, 0, 3));
        x.ends(7, -1, true);
        check.due("things are alike, too", 0, x.compare(7, 0, 0, 3));
    }

    private static void promise18CompareWithNothings() {
        tells("w[", "- 0a", -1);
        tells("w[", "- -", 0);
        tells("w]", "- 0a", 1);
        tells("w]", "- -", 0);
        tells("w[~", "- 0a", 1);
        tells("w]~", "- 0a", -1);
        tells("w[]", "- 0a", 1);
        tells("w][", "- 0a", -1);
        tells("w]~[", "- -", 0);
        Orderbench x = Check.laid("- 0a - 9a");
        check.refused("a nothing first", x, () -> x.compare(0, 0, 0, 1));
        check.refused("a nothing second", x, () -> x.compare(0, 0, 1, 0));
        check.refused("two nothings", x, () -> x.compare(0, 0, 0, 2));
        check.refused("one with itself", x, () -> x.compare(0, 0, 0, 0));
        check.asked("two things where nothings lie", -1, x, () -> x.compare(0, 0, 1, 3));
        Check.make(x, 1, "w[");
        x.together(2, 0, 1);
        check.refused("a first one that is not safe", x, () -> x.compare(2, 0, 0, 1));
        Check.make(x, 3, "w]");
        x.together(4, 1, 3);
        check.due("the first of both", -1, x.compare(4, 0, 0, 1));
        x.together(5, 3, 1);
        check.due("the last of both", 1, x.compare(5, 0, 0, 1));
        x.ends(6, -1, false);
        check.due("without another, first", -1, x.compare(6, 0, 0, 1));
        check.due("without another, two nothings", 0, x.compare(6, 0, 0, 2));
        x.ends(7, -1, true);
        check.due("without another, last", 1, x.compare(7, 0, 0, 1));
    }

    private static void promise18CompareOfWrongOnes() {
        Orderbench x = Check.laid("- 0a");
        for (int none : Check.NO_ORDER) {
            check.thrown("compare order " + none, Check.NO_INDEX, x, () -> x.compare(none, 0, 0, 0));
        }
        for (int none : Check.NO_BENCH) {
            check.thrown("compare bench " + none, Check.NO_INDEX, x, () -> x.compare(0, none, 0, 0));
        }
        for (int none : new int[] {-1, 2, 16, Integer.MIN_VALUE, Integer.MAX_VALUE}) {
            check.thrown("compare place " + none, Check.NO_INDEX, x, () -> x.compare(0, 0, none, 0));
            check.thrown("compare other " + none, Check.NO_INDEX, x, () -> x.compare(0, 0, 0, none));
        }
        check.thrown("compare on an empty bench", Check.NO_INDEX, x, () -> x.compare(0, 1, 0, 0));
    }

    private static void promise19Against() {
        Orderbench x = Check.laid("3b -");
        check.asked("ahead", -1, x, () -> x.against(0, 2, 5, 0, 0));
        check.asked("behind", 1, x, () -> x.against(0, 4, 0, 0, 0));
        check.asked("alike", 0, x, () -> x.against(0, 3, 0, 0, 0));
        check.refused("a nothing", x, () -> x.against(0, 3, 0, 0, 1));
        Check.make(x, 1, "n[");
        check.asked("behind a nothing", 1, x, () -> x.against(1, 0, 0, 0, 1));
        check.asked("the letter", -1, x, () -> x.against(1, 3, 0, 0, 0));
        check.asked("the same", 0, x, () -> x.against(1, 3, 1, 0, 0));
        check.asked("the greatest", 1, x, () -> x.against(1, 9, 5, 0, 0));
        Check.make(x, 2, "n]");
        check.asked("ahead of a nothing", -1, x, () -> x.against(2, 9, 5, 0, 1));
        for (int none : Check.NO_ORDER) {
            check.thrown("against order " + none, Check.NO_INDEX, x, () -> x.against(none, 10, 0, 0, 0));
        }
        for (int none : Check.NO_BENCH) {
            check.thrown("against bench " + none, Check.NO_INDEX, x, () -> x.against(0, 0, 6, none, 0));
        }
        for (int none : new int[] {-1, 2, 16, Integer.MIN_VALUE, Integer.MAX_VALUE}) {
            check.thrown("against place " + none, Check.NO_INDEX, x, () -> x.against(0, -1, 0, 0, none));
        }
        for (int[] none : Check.NO_THING) {
            check.thrown("against no thing", Check.NO_ARGUMENT, x, () -> x.against(0, none[0], none[1], 0, 0));
            check.thrown("against a nothing", Check.NO_ARGUMENT, x, () -> x.against(0, none[0], none[1], 0, 1));
        }
    }

    private static void alike(String texts, String one, String other, boolean want) {
        Orderbench x = Check.laid(texts);
        Check.make(x, 1, one);
        Check.make(x, 2, other);
        check.asked(one + " and " + other + " of " + texts, want, x, () -> x.tellAlike(1, 2, 0));
        check.asked(other + " and " + one + " of " + texts, want, x, () -> x.tellAlike(2, 1, 0));
        check.asked("on an empty bench", true, x, () -> x.tellAlike(1, 2, 1));
        check.asked("with itself", true, x, () -> x.tellAlike(1, 1, 0));
    }

    private static void promise20TellAlike() {
        alike("3b 1a", "w", "l", true);
        alike("3b 1a 1c", "w", "l", false);
        alike("3b 1a", "w", "w~", false);
        alike("3b 3a", "w", "w~", true);
        alike("3b", "w", "b", true);
        alike("3b 1c 3c 9a", "b", "n~", true);
        alike("3b 1c 3c 9a", "t", "l~", true);
        alike("-", "w", "l", true);
        alike("-", "w", "w[", false);
        alike("-", "w[", "w]", true);
        alike("- 1a", "w[", "w]", false);
        alike("- 1a", "w[~", "w]", true);
        alike("- 1a", "w", "l~", true);
        alike("- 1a 2a", "w", "w~", false);
        alike("1a 2a -", "w", "w[", false);
        alike("1a 2a", "w", "w[", true);
        Orderbench x = Check.laid("1a");
        for (int none : Check.NO_ORDER) {
            check.thrown("tellAlike order " + none, Check.NO_INDEX, x, () -> x.tellAlike(none, 0, 0));
            check.thrown("tellAlike other " + none, Check.NO_INDEX, x, () -> x.tellAlike(0, none, 0));
        }
        for (int none : Check.NO_BENCH) {
            check.thrown("tellAlike bench " + none, Check.NO_INDEX, x, () -> x.tellAlike(0, 0, none));
        }
    }

    private static void promise21IsPreorder() {
        for (String steps : "w l p n b d t w~ w[ d]~ t~[ p[]".split(" ")) {
            Orderbench x = Check.fresh();
            Check.make(x, 8, steps);
            check.asked("of none by " + steps, true, x, () -> x.isPreorder(8, 0));
            x.fill(0, 16, 3, 7);
            check.asked("of all by " + steps, true, x, () -> x.isPreorder(8, 0));
            x.layNothing(1);
            check.asked("of a nothing by " + steps, true, x, () -> x.isPreorder(8, 1));
        }
        Orderbench x = Check.laid("1a");
        for (int none : Check.NO_ORDER) {
            check.thrown("isPreorder order " + none, Check.NO_INDEX, x, () -> x.isPreorder(none, 0));
        }
        for (int none : Check.NO_BENCH) {
            check.thrown("isPreorder bench " + none, Check.NO_INDEX, x, () -> x.isPreorder(0, none));
        }
    }
}
