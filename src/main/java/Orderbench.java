/** Two benches on which things lie, and ten orders by which they are held beside each other. */
public final class Orderbench {
    private static final int NONE = -1;
    private static final int REFUSED = -9;
    private static final int BENCHES = 2;
    private static final int PLACES = 16;
    private static final int ORDERS = 10;
    private static final int WEIGHTS = 10;
    private static final int LETTERS = 6;
    private static final int GREATEST_NUMBER_TO_FILL = 99;
    private static final int GREATEST_SIZE = 40;
    private static final int HOUSE_NUMBERS = 6;

    // A SHAPE of the greatest SIZE has no more than 40 levels, and a check puts two more round it.
    private static final int DEEPEST = 48;

    // What lies on a PLACE is one number, so that copies share nothing and the same THING is the same number.
    private static final int NOTHING = -1;

    private static final String BASE_SIGNS = "wlpnbdt";
    private static final int BY_WEIGHT = 0;
    private static final int BY_LETTER = 1;
    private static final int EVEN_FIRST = 2;
    private static final int NATURAL = 3;
    private static final int NATURAL_BACKWARDS = 4;
    private static final int BY_REST = 5;
    private static final int LATER_LETTER = 6;

    private final Row[] benches;
    private final Shape[] orders;

    // Rows, ranks and signs are made once and used again, as all calls of a run share one room.
    private final Row copied;
    private final Row copiedToo;
    private final int[] ranks;
    private final StringBuilder signs;

    private int laid;
    private int refusals;
    private int knocks;

    public Orderbench() {
        benches = new Row[BENCHES];
        for (int bench = 0; bench < BENCHES; bench++) {
            benches[bench] = new Row();
        }
        orders = new Shape[ORDERS];
        Shape byWeight = new Base(BY_WEIGHT);
        for (int order = 0; order < ORDERS; order++) {
            orders[order] = byWeight;
        }
        copied = new Row();
        copiedToo = new Row();
        ranks = new int[PLACES];
        signs = new StringBuilder();
    }

    // ---- benches

    public int lay(int bench, int weight, int letter)
            throws IndexOutOfBoundsException, IllegalArgumentException, IllegalStateException {
        Row row = benchAt(bench);
        needThing(weight, letter);
        needRoomFor(row, 1);
        return layThing(row, weight, letter);
    }

    public int layNothing(int bench) throws IndexOutOfBoundsException, IllegalStateException {
        Row row = benchAt(bench);
        needRoomFor(row, 1);
        row.add(NOTHING);
        return row.many;
    }

    public int fill(int bench, int many, int from, int by)
            throws IndexOutOfBoundsException, IllegalArgumentException, IllegalStateException {
        Row row = benchAt(bench);
        if (many < 0 || many > PLACES || !isNumberToFill(from) || !isNumberToFill(by)) {
            throw new IllegalArgumentException("many is not 0 to 16, or from or by not 0 to 99");
        }
        needRoomFor(row, many);
        for (int k = 0; k < many; k++) {
            int n = from + k * by;
            if (n % 8 == 7) {
                row.add(NOTHING);
            } else {
                layThing(row, n % WEIGHTS, n % LETTERS);
            }
        }
        return row.many;
    }

    public String take(int bench, int place) throws IndexOutOfBoundsException {
        Row row = benchAt(bench);
        needPlace(row, place);
        String taken = textOf(row.at(place));
        row.drop(place);
        return taken;
    }

    public int swap(int bench, int place, int other) throws IndexOutOfBoundsException {
        Row row = benchAt(bench);
        needPlace(row, place);
        needPlace(row, other);
        row.exchange(place, other);
        return place == other ? 0 : 1;
    }

    public int clear(int bench) throws IndexOutOfBoundsException {
        Row row = benchAt(bench);
        int many = row.many;
        row.many = 0;
        return many;
    }

    public int copy(int bench) throws IndexOutOfBoundsException {
        Row row = benchAt(bench);
        benchAt(BENCHES - 1 - bench).become(row);
        return row.many;
    }

    public int sort(int bench, int order) throws IndexOutOfBoundsException {
        Row row = benchAt(bench);
        Shape shape = orderAt(order);
        if (!takes(row, shape)) {
            return answer(REFUSED);
        }
        copied.become(row);
        row.arrange(shape);
        return row.unlike(copied);
    }

    public int reverse(int bench) throws IndexOutOfBoundsException {
        Row row = benchAt(bench);
        for (int place = 0; place < row.many / 2; place++) {
            row.exchange(place, row.many - 1 - place);
        }
        return row.many;
    }

    // ---- orders

    public int base(int order, int kind) throws IndexOutOfBoundsException, IllegalArgumentException {
        Shape before = orderAt(order);
        if (kind < 0 || kind >= BASE_SIGNS.length()) {
            throw new IllegalArgumentException("kind is not 0 to 6");
        }
        makeOrder(order, new Base(kind));
        return before.length;
    }

    public int turn(int order, int of) throws IndexOutOfBoundsException, IllegalStateException {
        orderAt(order);
        Shape turned = new Turned(orderAt(of));
        needSize(turned);
        return makeOrder(order, turned);
    }

    public int together(int order, int first, int second)
            throws IndexOutOfBoundsException, IllegalStateException {
        orderAt(order);
        Shape ahead = orderAt(first);
        Shape behind = orderAt(second);
        Shape both = new Together(ahead, behind);
        needSize(both);
        if (ahead.safe && !behind.safe) {
            return answer(REFUSED);
        }
        return makeOrder(order, both);
    }

    public int ends(int order, int of, boolean isLast)
            throws IndexOutOfBoundsException, IllegalStateException {
        orderAt(order);
        Shape ends = of == NONE ? new Ends(isLast) : new Ends(orderAt(of), isLast);
        needSize(ends);
        return makeOrder(order, ends);
    }

    public int keep(int order, int of) throws IndexOutOfBoundsException {
        orderAt(order);
        return makeOrder(order, orderAt(of));
    }

    // ---- what is asked of orders

    public String shape(int order) throws IndexOutOfBoundsException {
        Shape shape = orderAt(order);
        signs.setLength(0);
        shape.write(signs, 0);
        return signs.toString();
    }

    public boolean isSafe(int order) throws IndexOutOfBoundsException {
        return orderAt(order).safe;
    }

    public int compare(int order, int bench, int place, int other) throws IndexOutOfBoundsException {
        Shape shape = orderAt(order);
        Row row = benchAt(bench);
        needPlace(row, place);
        needPlace(row, other);
        return answer(told(shape, row.at(place), row.at(other)));
    }

    public int against(int order, int weight, int letter, int bench, int place)
            throws IndexOutOfBoundsException, IllegalArgumentException {
        Shape shape = orderAt(order);
        Row row = benchAt(bench);
        needPlace(row, place);
        needThing(weight, letter);
        return answer(told(shape, codeOf(0, weight, letter), row.at(place)));
    }

    public boolean tellAlike(int order, int other, int bench) throws IndexOutOfBoundsException {
        Shape shape = orderAt(order);
        Shape otherShape = orderAt(other);
        return tellTheSame(benchAt(bench), shape, otherShape);
    }

    public boolean isPreorder(int order, int bench) throws IndexOutOfBoundsException {
        Shape shape = orderAt(order);
        return ranksAll(benchAt(bench), shape);
    }

    // ---- what is asked of benches

    public String text(int bench) throws IndexOutOfBoundsException {
        Row row = benchAt(bench);
        signs.setLength(0);
        writeRow(row);
        return signs.toString();
    }

    public String thing(int bench, int place) throws IndexOutOfBoundsException {
        Row row = benchAt(bench);
        needPlace(row, place);
        return textOf(row.at(place));
    }

    public int size(int bench) throws IndexOutOfBoundsException {
        return benchAt(bench).many;
    }

    public boolean isSorted(int bench, int order) throws IndexOutOfBoundsException {
        Row row = benchAt(bench);
        return liesSorted(row, orderAt(order));
    }

    public int classes(int bench, int order) throws IndexOutOfBoundsException {
        Row row = benchAt(bench);
        return answer(classesOf(row, orderAt(order)));
    }

    public int least(int bench, int order) throws IndexOutOfBoundsException {
        Row row = benchAt(bench);
        return answer(alikeToFarthest(row, orderAt(order), -1));
    }

    public int greatest(int bench, int order) throws IndexOutOfBoundsException {
        Row row = benchAt(bench);
        return answer(alikeToFarthest(row, orderAt(order), 1));
    }

    public int found(int bench, int order, int weight, int letter)
            throws IndexOutOfBoundsException, IllegalArgumentException {
        Row row = benchAt(bench);
        Shape shape = orderAt(order);
        needThing(weight, letter);
        if (!canSeek(row, shape)) {
            return answer(REFUSED);
        }
        return howManyTold(row, shape, codeOf(0, weight, letter), 0) > 0 ? 1 : 0;
    }

    public int room(int bench, int order, int weight, int letter)
            throws IndexOutOfBoundsException, IllegalArgumentException {
        Row row = benchAt(bench);
        Shape shape = orderAt(order);
        needThing(weight, letter);
        if (!canSeek(row, shape)) {
            return answer(REFUSED);
        }
        int sought = codeOf(0, weight, letter);
        return howManyTold(row, shape, sought, 0) > 0 ? NONE : howManyTold(row, shape, sought, -1);
    }

    public boolean isTwice(int bench, int first, int second) throws IndexOutOfBoundsException {
        Row row = benchAt(bench);
        Shape ahead = orderAt(first);
        return sortsAsTwice(row, ahead, orderAt(second));
    }

    public int nothings(int bench) throws IndexOutOfBoundsException {
        return benchAt(bench).empties();
    }

    public int alikeTo(int bench, int order, int place) throws IndexOutOfBoundsException {
        Row row = benchAt(bench);
        Shape shape = orderAt(order);
        needPlace(row, place);
        return answer(takesEach(row, shape) ? howManyTold(row, shape, row.at(place), 0) : REFUSED);
    }

    public int aheadOf(int bench, int order, int place) throws IndexOutOfBoundsException {
        Row row = benchAt(bench);
        Shape shape = orderAt(order);
        needPlace(row, place);
        return answer(takesEach(row, shape) ? howManyTold(row, shape, row.at(place), -1) : REFUSED);
    }

    // ---- all

    public int house(int what) throws IllegalArgumentException {
        if (what < 0 || what >= HOUSE_NUMBERS) {
            throw new IllegalArgumentException("what is not 0 to 5");
        }
        return houseNumber(what);
    }

    public int knock() {
        knocks++;
        return knocks;
    }

    public boolean isSound() {
        for (int order = 0; order < ORDERS; order++) {
            for (int bench = 0; bench < BENCHES; bench++) {
                if (!isSoundOn(benches[bench], orders[order])) {
                    return false;
                }
            }
        }
        return true;
    }

    public long digest() {
        long d = 7773;
        for (int what = 0; what < HOUSE_NUMBERS; what++) {
            d = d * 31 + houseNumber(what);
        }
        for (int bench = 0; bench < BENCHES; bench++) {
            d = digestBench(d, benches[bench]);
        }
        for (int order = 0; order < ORDERS; order++) {
            d = digestOrder(d, orders[order]);
        }
        return d * 31 + (isSound() ? 1 : 0);
    }

    // ---- tests of what is given

    private Row benchAt(int bench) {
        if (bench < 0 || bench >= BENCHES) {
            throw new IndexOutOfBoundsException("no such bench");
        }
        return benches[bench];
    }

    private Shape orderAt(int order) {
        if (order < 0 || order >= ORDERS) {
            throw new IndexOutOfBoundsException("no such order");
        }
        return orders[order];
    }

    private static void needPlace(Row row, int place) {
        if (!row.has(place)) {
            throw new IndexOutOfBoundsException("no such place");
        }
    }

    private static void needThing(int weight, int letter) {
        if (weight < 0 || weight >= WEIGHTS || letter < 0 || letter >= LETTERS) {
            throw new IllegalArgumentException("weight is not 0 to 9, or letter not 0 to 5");
        }
    }

    private static boolean isNumberToFill(int number) {
        return number >= 0 && number <= GREATEST_NUMBER_TO_FILL;
    }

    private static void needRoomFor(Row row, int more) {
        if (row.many + more > PLACES) {
            throw new IllegalStateException("there would be more than 16 places");
        }
    }

    private static void needSize(Shape shape) {
        if (shape.length > GREATEST_SIZE) {
            throw new IllegalStateException("the size would be above 40");
        }
    }

    // ---- things and their texts

    private static int codeOf(int number, int weight, int letter) {
        return (number * WEIGHTS + weight) * LETTERS + letter;
    }

    private int layThing(Row row, int weight, int letter) {
        int number = laid;
        row.add(codeOf(number, weight, letter));
        laid++;
        return number;
    }

    private String textOf(int code) {
        signs.setLength(0);
        writeCode(code);
        return signs.toString();
    }

    private void writeCode(int code) {
        if (code == NOTHING) {
            signs.append('-');
            return;
        }
        signs.append(code / LETTERS % WEIGHTS);
        signs.append((char) ('a' + code % LETTERS));
        signs.append('#');
        signs.append(code / LETTERS / WEIGHTS);
    }

    private void writeRow(Row row) {
        for (int place = 0; place < row.many; place++) {
            if (place > 0) {
                signs.append(' ');
            }
            writeCode(row.at(place));
        }
    }

    // ---- what orders tell

    /** Face methods alone call this: what the digest or a check asks is not counted as told. */
    private int answer(int answered) {
        if (answered == REFUSED) {
            refusals++;
        }
        return answered;
    }

    private int makeOrder(int order, Shape shape) {
        if (order >= 0 && order < ORDERS) {
            orders[order] = shape;
        }
        return shape.length;
    }

    private static int told(Shape shape, int one, int other) {
        if (!shape.safe && (one == NOTHING || other == NOTHING)) {
            return REFUSED;
        }
        return shape.tell(one, other, 0);
    }

    /** Unlike takes(), this also refuses a NOTHING that lies alone. */
    private static boolean takesEach(Row row, Shape shape) {
        return shape.safe || row.empties() == 0;
    }

    private static boolean takes(Row row, Shape shape) {
        return row.many < 2 || takesEach(row, shape);
    }

    private static boolean tellTheSame(Row row, Shape shape, Shape other) {
        for (int first = 0; first < row.many; first++) {
            for (int second = 0; second < row.many; second++) {
                int one = row.at(first);
                int two = row.at(second);
                if (told(shape, one, two) != told(other, one, two)) {
                    return false;
                }
            }
        }
        return true;
    }

    /**
     * A relation is a preorder in which any two can be held beside each other exactly if it tells of each
     * two what the numbers of those ahead of them tell: so pairs are enough, and no threes are tried.
     */
    private boolean ranksAll(Row row, Shape shape) {
        copied.becomeTaken(row, shape.safe);
        for (int place = 0; place < copied.many && place < PLACES; place++) {
            ranks[place] = howManyTold(copied, shape, copied.at(place), -1);
        }
        for (int place = 0; place < copied.many && place < PLACES; place++) {
            for (int other = 0; other < copied.many && other < PLACES; other++) {
                int due = held(ranks[place], ranks[other]);
                if (shape.tell(copied.at(place), copied.at(other), 0) != due) {
                    return false;
                }
            }
        }
        return true;
    }

    private static int held(int one, int other) {
        return one < other ? -1 : one > other ? 1 : 0;
    }

    // ---- what is told of a bench by an order

    private static boolean liesSorted(Row row, Shape shape) {
        return takes(row, shape) && isAscending(row, shape);
    }

    private static boolean isAscending(Row row, Shape shape) {
        for (int place = 1; place < row.many; place++) {
            if (shape.tell(row.at(place), row.at(place - 1), 0) < 0) {
                return false;
            }
        }
        return true;
    }

    private static boolean canSeek(Row row, Shape shape) {
        return takesEach(row, shape) && liesSorted(row, shape);
    }

    /** Only for a SHAPE that takes each that lies there. */
    private static int howManyTold(Row row, Shape shape, int code, int due) {
        int many = 0;
        for (int place = 0; place < row.many; place++) {
            if (shape.tell(row.at(place), code, 0) == due) {
                many++;
            }
        }
        return many;
    }

    private static int classesOf(Row row, Shape shape) {
        if (!takesEach(row, shape)) {
            return REFUSED;
        }
        int many = 0;
        for (int place = 0; place < row.many; place++) {
            if (isFirstOfItsClass(row, shape, place)) {
                many++;
            }
        }
        return many;
    }

    private static boolean isFirstOfItsClass(Row row, Shape shape, int place) {
        for (int earlier = 0; earlier < place; earlier++) {
            if (shape.tell(row.at(earlier), row.at(place), 0) == 0) {
                return false;
            }
        }
        return true;
    }

    private static int alikeToFarthest(Row row, Shape shape, int side) {
        if (row.many == 0 || !takesEach(row, shape)) {
            return REFUSED;
        }
        int farthest = row.at(0);
        for (int place = 1; place < row.many; place++) {
            if (shape.tell(row.at(place), farthest, 0) == side) {
                farthest = row.at(place);
            }
        }
        return howManyTold(row, shape, farthest, 0);
    }

    private boolean sortsAsTwice(Row row, Shape first, Shape second) {
        if (!takesEach(row, first) || !takesEach(row, second)) {
            return true;
        }
        copied.become(row);
        copied.arrange(new Together(first, second));
        copiedToo.become(row);
        copiedToo.arrange(second);
        copiedToo.arrange(first);
        return copied.unlike(copiedToo) == 0;
    }

    private boolean sortsWell(Row row, Shape shape) {
        copied.become(row);
        copied.arrange(shape);
        if (!isAscending(copied, shape) || !copied.holdsAllOf(row)) {
            return false;
        }
        copiedToo.become(copied);
        copiedToo.arrange(shape);
        return copiedToo.unlike(copied) == 0;
    }

    private boolean isSoundOn(Row row, Shape shape) {
        Shape turnedTwice = new Turned(new Turned(shape));
        return ranksAll(row, shape)
                && tellTheSame(row, shape, turnedTwice)
                && (!takes(row, shape) || sortsWell(row, shape))
                && sortsAsTwice(row, shape, orders[0]);
    }

    // ---- all of it

    private int houseNumber(int what) {
        switch (what) {
            case 0:
                return benches[0].many + benches[1].many;
            case 1:
                return laid;
            case 2:
                return howManySafe();
            case 3:
                return refusals;
            case 4:
                return knocks;
            default:
                return benches[0].empties() + benches[1].empties();
        }
    }

    private int howManySafe() {
        int many = 0;
        for (int order = 0; order < ORDERS; order++) {
            if (orders[order].safe) {
                many++;
            }
        }
        return many;
    }

    private long digestSigns(long before) {
        long d = before;
        for (int k = 0; k < signs.length(); k++) {
            d = d * 31 + signs.charAt(k);
        }
        return d;
    }

    private long digestBench(long before, Row row) {
        signs.setLength(0);
        writeRow(row);
        long d = digestSigns(before);
        for (int order = 0; order < ORDERS; order++) {
            Shape shape = orders[order];
            d = d * 31 + (liesSorted(row, shape) ? 1 : 0);
            d = d * 31 + classesOf(row, shape);
            d = d * 31 + alikeToFarthest(row, shape, -1);
            d = d * 31 + alikeToFarthest(row, shape, 1);
        }
        return d;
    }

    private long digestOrder(long before, Shape shape) {
        signs.setLength(0);
        shape.write(signs, 0);
        return digestSigns(before) * 31 + (shape.safe ? 1 : 0);
    }

    /** A bench, or a copy of one. */
    private static final class Row {
        private final int[] codes = new int[PLACES];
        private int many;

        boolean has(int place) {
            return place >= 0 && place < many && place < codes.length;
        }

        int at(int place) {
            return place >= 0 && place < many && place < codes.length ? codes[place] : NOTHING;
        }

        void add(int code) {
            if (many >= 0 && many < codes.length) {
                codes[many] = code;
                many++;
            }
        }

        void drop(int place) {
            if (!has(place)) {
                return;
            }
            for (int to = place; to + 1 < many; to++) {
                codes[to] = codes[to + 1];
            }
            many--;
        }

        void exchange(int place, int other) {
            if (has(place) && has(other)) {
                int code = codes[place];
                codes[place] = codes[other];
                codes[other] = code;
            }
        }

        void become(Row row) {
            becomeTaken(row, true);
        }

        void becomeTaken(Row row, boolean withNothings) {
            many = 0;
            for (int place = 0; place < row.many; place++) {
                int code = row.at(place);
                if (withNothings || code != NOTHING) {
                    add(code);
                }
            }
        }

        int empties() {
            return howOften(NOTHING);
        }

        int howOften(int code) {
            int often = 0;
            for (int place = 0; place < many && place < codes.length; place++) {
                if (codes[place] == code) {
                    often++;
                }
            }
            return often;
        }

        int unlike(Row row) {
            int unlike = 0;
            for (int place = 0; place < many; place++) {
                if (at(place) != row.at(place)) {
                    unlike++;
                }
            }
            return unlike;
        }

        boolean holdsAllOf(Row row) {
            if (many != row.many) {
                return false;
            }
            for (int place = 0; place < many; place++) {
                if (howOften(row.at(place)) != row.howOften(row.at(place))) {
                    return false;
                }
            }
            return true;
        }

        /** Those that are ALIKE keep their sequence: on this rests that twice sorted is sorted by both. */
        void arrange(Shape shape) {
            for (int place = 1; place < many; place++) {
                int code = at(place);
                int to = place;
                while (to > 0 && shape.tell(code, at(to - 1), 0) < 0) {
                    exchange(to, to - 1);
                    to--;
                }
            }
        }
    }

    /** It never changes, so that ORDERS can share it; its text alone does not tell what it is made of. */
    private abstract static class Shape {
        final int length;
        final boolean safe;

        Shape(int length, boolean safe) {
            this.length = length;
            this.safe = safe;
        }

        /** -1, 0 or 1; asked only of what this takes. */
        abstract int tell(int one, int other, int depth);

        abstract void write(StringBuilder to, int depth);
    }

    private static final class Base extends Shape {
        private final int kind;

        Base(int kind) {
            super(1, false);
            this.kind = kind;
        }

        int tell(int one, int other, int depth) {
            return held(key(one), key(other));
        }

        void write(StringBuilder to, int depth) {
            if (kind >= 0 && kind < BASE_SIGNS.length()) {
                to.append(BASE_SIGNS.charAt(kind));
            }
        }

        private int key(int code) {
            int natural = code % (WEIGHTS * LETTERS);
            int weight = natural / LETTERS;
            int letter = natural % LETTERS;
            switch (kind) {
                case BY_LETTER:
                    return letter;
                case EVEN_FIRST:
                    return weight % 2;
                case NATURAL:
                    return natural;
                case NATURAL_BACKWARDS:
                    return -natural;
                case BY_REST:
                    return weight % 3;
                case LATER_LETTER:
                    return -letter;
                default:
                    return weight;
            }
        }
    }

    private static final class Turned extends Shape {
        private final Shape of;

        Turned(Shape of) {
            super(of.length + 1, of.safe);
            this.of = of;
        }

        int tell(int one, int other, int depth) {
            return depth < DEEPEST ? -of.tell(one, other, depth + 1) : 0;
        }

        void write(StringBuilder to, int depth) {
            if (depth < DEEPEST) {
                of.write(to, depth + 1);
                to.append('~');
            }
        }
    }

    private static final class Together extends Shape {
        private final Shape first;
        private final Shape second;

        Together(Shape first, Shape second) {
            super(first.length + second.length + 3, first.safe && second.safe);
            this.first = first;
            this.second = second;
        }

        int tell(int one, int other, int depth) {
            if (depth >= DEEPEST) {
                return 0;
            }
            int ahead = first.tell(one, other, depth + 1);
            return ahead != 0 ? ahead : second.tell(one, other, depth + 1);
        }

        void write(StringBuilder to, int depth) {
            if (depth < DEEPEST) {
                to.append('(');
                first.write(to, depth + 1);
                to.append(' ');
                second.write(to, depth + 1);
                to.append(')');
            }
        }
    }

    /** NOTHING FIRST or NOTHING LAST. */
    private static final class Ends extends Shape {
        private final Shape of;
        private final boolean isLast;

        Ends(boolean isLast) {
            super(1, true);
            this.of = null;
            this.isLast = isLast;
        }

        Ends(Shape of, boolean isLast) {
            super(of.length + 1, true);
            this.of = of;
            this.isLast = isLast;
        }

        int tell(int one, int other, int depth) {
            if (one == NOTHING || other == NOTHING) {
                return isLast ? held(rankOf(one), rankOf(other)) : held(rankOf(other), rankOf(one));
            }
            return of != null && depth < DEEPEST ? of.tell(one, other, depth + 1) : 0;
        }

        void write(StringBuilder to, int depth) {
            to.append(isLast ? ']' : '[');
            if (of != null && depth < DEEPEST) {
                of.write(to, depth + 1);
            }
        }

        private static int rankOf(int code) {
            return code == NOTHING ? 1 : 0;
        }
    }
}
