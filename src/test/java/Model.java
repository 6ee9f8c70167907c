import java.util.ArrayList;
import java.util.Arrays;
import java.util.Comparator;
import java.util.HashSet;
import java.util.List;
import java.util.Set;
import java.util.stream.Collectors;

/** The document once more, in another way and with the Java library: what the class is held against. */
final class Model {
    /** NOTHING is null. */
    record Thing(int weight, int letter, int number) {
        static String text(Thing thing) {
            return thing == null ? "-" : "" + thing.weight + (char) ('a' + thing.letter) + "#" + thing.number;
        }
    }

    record Order(String text, boolean isSafe, Comparator<Thing> by) {
        /** Null if the two are not taken. */
        Integer tell(Thing one, Thing other) {
            return !isSafe && (one == null || other == null) ? null : Integer.valueOf(Integer.signum(by.compare(one, other)));
        }
    }

    private static final Comparator<Thing> BY_WEIGHT = Comparator.comparingInt(Thing::weight);
    private static final Comparator<Thing> BY_LETTER = Comparator.comparingInt(Thing::letter);
    private static final Comparator<Thing> NATURAL = BY_WEIGHT.thenComparing(BY_LETTER);
    private static final List<Order> BASES = List.of(
            new Order("w", false, BY_WEIGHT),
            new Order("l", false, BY_LETTER),
            new Order("p", false, Comparator.comparing(thing -> thing.weight() % 2 == 1)),
            new Order("n", false, NATURAL),
            new Order("b", false, NATURAL.reversed()),
            new Order("d", false, Comparator.comparingInt(thing -> thing.weight() % 3)),
            new Order("t", false, BY_LETTER.reversed()));

    private final List<List<Thing>> benches = List.of(new ArrayList<>(), new ArrayList<>());
    private final Order[] orders = new Order[10];
    private int laid;
    private int refusals;
    private int knocks;

    Model() {
        Arrays.fill(orders, BASES.get(0));
    }

    /** A boolean argument is 1 or 0. */
    Object call(String name, int... a) {
        return switch (name) {
            case "lay" -> lay(bench(a[0]), a[1], a[2]);
            case "layNothing" -> layNothing(bench(a[0]));
            case "fill" -> fill(bench(a[0]), a[1], a[2], a[3]);
            case "take" -> Thing.text(bench(a[0]).remove(place(a[0], a[1])));
            case "swap" -> swap(bench(a[0]), place(a[0], a[1]), place(a[0], a[2]));
            case "clear" -> become(bench(a[0]), List.of());
            case "copy" -> copy(bench(a[0]), 1 - a[0]);
            case "sort" -> sort(bench(a[0]), order(a[1]));
            case "reverse" -> reverse(bench(a[0]));
            case "base" -> base(a[0], order(a[0]).text.length(), a[1]);
            case "turn" -> become(a[0], order(a[0]), turned(order(a[1])));
            case "together" -> together(a[0], order(a[0]), order(a[1]), order(a[2]));
            case "ends" -> become(a[0], order(a[0]), ends(a[1] == -1 ? null : order(a[1]), a[2] == 1));
            case "keep" -> become(a[0], order(a[0]), order(a[1]));
            case "shape" -> order(a[0]).text;
            case "isSafe" -> order(a[0]).isSafe;
            case "compare" -> count(order(a[0]).tell(at(a[1], a[2]), at(a[1], a[3])));
            case "against" -> against(order(a[0]), at(a[3], a[4]), a[1], a[2]);
            case "tellAlike" -> tellAlike(order(a[0]), order(a[1]), bench(a[2]));
            case "isPreorder" -> isPreorder(order(a[0]), bench(a[1]));
            case "text" -> text(bench(a[0]));
            case "thing" -> Thing.text(at(a[0], a[1]));
            case "size" -> bench(a[0]).size();
            case "isSorted" -> isSorted(bench(a[0]), order(a[1]));
            case "classes" -> count(classes(bench(a[0]), order(a[1])));
            case "least" -> count(farthest(bench(a[0]), order(a[1]), -1));
            case "greatest" -> count(farthest(bench(a[0]), order(a[1]), 1));
            case "found" -> found(bench(a[0]), order(a[1]), a[2], a[3]);
            case "room" -> room(bench(a[0]), order(a[1]), a[2], a[3]);
            case "isTwice" -> isTwice(bench(a[0]), order(a[1]), order(a[2]));
            case "nothings" -> nothings(bench(a[0]));
            case "alikeTo" -> count(told(bench(a[0]), order(a[1]), at(a[0], a[2]), 0));
            case "aheadOf" -> count(told(bench(a[0]), order(a[1]), at(a[0], a[2]), -1));
            case "house" -> house(a[0]);
            case "knock" -> ++knocks;
            case "isSound" -> isSound();
            case "digest" -> digest();
            default -> throw new UnsupportedOperationException(name);
        };
    }

    private List<Thing> bench(int bench) {
        if (bench != 0 && bench != 1) {
            throw new IndexOutOfBoundsException();
        }
        return benches.get(bench);
    }

    private Order order(int order) {
        if (order < 0 || order > 9) {
            throw new IndexOutOfBoundsException();
        }
        return orders[order];
    }

    private int place(int bench, int place) {
        at(bench, place);
        return place;
    }

    private Thing at(int bench, int place) {
        List<Thing> things = bench(bench);
        if (place < 0 || place >= things.size()) {
            throw new IndexOutOfBoundsException();
        }
        return things.get(place);
    }

    private static Thing probe(int weight, int letter) {
        need(weight >= 0 && weight <= 9 && letter >= 0 && letter <= 5);
        return new Thing(weight, letter, 0);
    }

    private static void need(boolean argument) {
        if (!argument) {
            throw new IllegalArgumentException();
        }
    }

    private static void needState(boolean state) {
        if (!state) {
            throw new IllegalStateException();
        }
    }

    private int count(Integer answer) {
        if (answer == null) {
            refusals++;
            return -9;
        }
        return answer;
    }

    private int lay(List<Thing> bench, int weight, int letter) {
        probe(weight, letter);
        needState(bench.size() < 16);
        bench.add(new Thing(weight, letter, laid));
        return laid++;
    }

    private static int layNothing(List<Thing> bench) {
        needState(bench.size() < 16);
        bench.add(null);
        return bench.size();
    }

    private int fill(List<Thing> bench, int many, int from, int by) {
        need(many >= 0 && many <= 16 && from >= 0 && from <= 99 && by >= 0 && by <= 99);
        needState(bench.size() + many <= 16);
        for (int n = from; many > 0; n += by, many--) {
            if (n % 8 == 7) {
                layNothing(bench);
            } else {
                lay(bench, n % 10, n % 6);
            }
        }
        return bench.size();
    }

    private static int swap(List<Thing> bench, int place, int other) {
        Thing thing = bench.get(place);
        bench.set(place, bench.get(other));
        bench.set(other, thing);
        return place != other ? 1 : 0;
    }

    private static int become(List<Thing> bench, List<Thing> other) {
        int before = bench.size();
        bench.clear();
        bench.addAll(other);
        return before;
    }

    private int copy(List<Thing> bench, int other) {
        become(bench(other), bench);
        return bench.size();
    }

    private int sort(List<Thing> bench, Order order) {
        if (!takes(bench, order)) {
            return count(null);
        }
        List<Thing> before = new ArrayList<>(bench);
        bench.sort(order.by);
        int unlike = 0;
        for (int place = 0; place < before.size(); place++) {
            unlike += Thing.text(before.get(place)).equals(Thing.text(bench.get(place))) ? 0 : 1;
        }
        return unlike;
    }

    private static int reverse(List<Thing> bench) {
        java.util.Collections.reverse(bench);
        return bench.size();
    }

    private int base(int order, int before, int kind) {
        need(kind >= 0 && kind <= 6);
        orders[order] = BASES.get(kind);
        return before;
    }

    private int become(int order, Order before, Order after) {
        needState(after.text.length() <= 40);
        orders[order] = after;
        return after.text.length();
    }

    private static Order turned(Order of) {
        return new Order(of.text + "~", of.isSafe, of.by.reversed());
    }

    private static Order both(Order first, Order second) {
        String text = "(" + first.text + " " + second.text + ")";
        return new Order(text, first.isSafe && second.isSafe, first.by.thenComparing(second.by));
    }

    private int together(int order, Order before, Order first, Order second) {
        Order both = both(first, second);
        needState(both.text.length() <= 40);
        return first.isSafe && !second.isSafe ? count(null) : become(order, before, both);
    }

    private static Order ends(Order of, boolean isLast) {
        String text = (isLast ? "]" : "[") + (of == null ? "" : of.text);
        Comparator<Thing> by = of == null ? null : of.by;
        return new Order(text, true, isLast ? Comparator.nullsLast(by) : Comparator.nullsFirst(by));
    }

    private int against(Order order, Thing lies, int weight, int letter) {
        return count(order.tell(probe(weight, letter), lies));
    }

    private static boolean tellAlike(Order order, Order other, List<Thing> bench) {
        return bench.stream().allMatch(one -> bench.stream()
                .allMatch(two -> java.util.Objects.equals(order.tell(one, two), other.tell(one, two))));
    }

    private static boolean isPreorder(Order order, List<Thing> bench) {
        List<Thing> taken = bench.stream().filter(thing -> thing != null || order.isSafe).collect(Collectors.toList());
        for (Thing one : taken) {
            for (Thing two : taken) {
                if (order.tell(one, one) != 0 || order.tell(one, two) != -order.tell(two, one)) {
                    return false;
                }
                for (Thing three : taken) {
                    if (order.tell(one, two) <= 0 && order.tell(two, three) <= 0 && order.tell(one, three) > 0) {
                        return false;
                    }
                }
            }
        }
        return true;
    }

    private static String text(List<Thing> bench) {
        return bench.stream().map(Thing::text).collect(Collectors.joining(" "));
    }

    private static int nothings(List<Thing> bench) {
        return (int) bench.stream().filter(thing -> thing == null).count();
    }

    private static boolean takesEach(List<Thing> bench, Order order) {
        return order.isSafe || !bench.contains(null);
    }

    private static boolean takes(List<Thing> bench, Order order) {
        return takesEach(bench, order) || bench.size() < 2;
    }

    private static boolean isSorted(List<Thing> bench, Order order) {
        List<Thing> sorted = new ArrayList<>(bench);
        if (takes(bench, order)) {
            sorted.sort(order.by);
        }
        return takes(bench, order) && sorted.equals(bench);
    }

    private static Integer told(List<Thing> bench, Order order, Thing thing, int due) {
        return !takesEach(bench, order) ? null
                : Integer.valueOf((int) bench.stream().filter(lies -> order.tell(lies, thing) == due).count());
    }

    /** Two are ALIKE exactly if as many stand ahead of the one as of the other. */
    private static Integer classes(List<Thing> bench, Order order) {
        if (!takesEach(bench, order)) {
            return null;
        }
        Set<Integer> ranks = new HashSet<>();
        for (Thing thing : bench) {
            ranks.add(told(bench, order, thing, -1));
        }
        return ranks.size();
    }

    private static Integer farthest(List<Thing> bench, Order order, int side) {
        if (bench.isEmpty() || !takesEach(bench, order)) {
            return null;
        }
        for (Thing thing : bench) {
            if (told(bench, order, thing, side) == 0) {
                return told(bench, order, thing, 0);
            }
        }
        throw new AssertionError("no farthest one");
    }

    private int found(List<Thing> bench, Order order, int weight, int letter) {
        Thing sought = probe(weight, letter);
        boolean refused = !isSorted(bench, order) || !takesEach(bench, order);
        return refused ? count(null) : Math.min(1, told(bench, order, sought, 0));
    }

    private int room(List<Thing> bench, Order order, int weight, int letter) {
        int found = found(bench, order, weight, letter);
        return found == 1 ? -1 : found == 0 ? told(bench, order, probe(weight, letter), -1) : found;
    }

    private static boolean isTwice(List<Thing> bench, Order first, Order second) {
        if (!takesEach(bench, first) || !takesEach(bench, second)) {
            return true;
        }
        List<Thing> once = new ArrayList<>(bench);
        once.sort(both(first, second).by);
        List<Thing> twice = new ArrayList<>(bench);
        twice.sort(second.by);
        twice.sort(first.by);
        return once.equals(twice);
    }

    private int house(int what) {
        need(what >= 0 && what <= 5);
        return switch (what) {
            case 0 -> bench(0).size() + bench(1).size();
            case 1 -> laid;
            case 2 -> (int) Arrays.stream(orders).filter(Order::isSafe).count();
            case 3 -> refusals;
            case 4 -> knocks;
            default -> nothings(bench(0)) + nothings(bench(1));
        };
    }

    private static boolean sortsWell(List<Thing> bench, Order order) {
        List<Thing> copy = new ArrayList<>(bench);
        copy.sort(order.by);
        List<Thing> again = new ArrayList<>(copy);
        again.sort(order.by);
        return isSorted(copy, order) && copy.equals(again) && copy.containsAll(bench);
    }

    private boolean isSound() {
        for (List<Thing> bench : benches) {
            for (Order order : orders) {
                if (!isPreorder(order, bench) || !tellAlike(order, turned(turned(order)), bench)
                        || takes(bench, order) && !sortsWell(bench, order) || !isTwice(bench, order, orders[0])) {
                    return false;
                }
            }
        }
        return true;
    }

    private long digest() {
        List<Long> numbers = new ArrayList<>();
        for (int what = 0; what < 6; what++) {
            numbers.add((long) house(what));
        }
        for (List<Thing> bench : benches) {
            text(bench).chars().forEach(sign -> numbers.add((long) sign));
            for (Order order : orders) {
                numbers.add(isSorted(bench, order) ? 1L : 0L);
                for (Integer told : Arrays.asList(
                        classes(bench, order), farthest(bench, order, -1), farthest(bench, order, 1))) {
                    numbers.add(told == null ? -9L : told);
                }
            }
        }
        for (Order order : orders) {
            order.text.chars().forEach(sign -> numbers.add((long) sign));
            numbers.add(order.isSafe ? 1L : 0L);
        }
        numbers.add(isSound() ? 1L : 0L);
        long d = 7773;
        for (long v : numbers) {
            d = d * 31 + v;
        }
        return d;
    }
}
