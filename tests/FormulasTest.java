/** Promises 7 to 14. */
public final class FormulasTest {
    private static final int LOW = Integer.MIN_VALUE;
    private static final int HIGH = Integer.MAX_VALUE;
    private static final char[] NO_JOIN = {'A', 'E', '=', '<', 'x', '!', 0, 255};
    private static final char[] NO_BIND = {'&', '|', '>', '=', '<', 'a', 0, 255};

    /** Terms 0 to 3: the variables 0 and 1, the numbers 0 and 1. */
    private static WitnessRow row() {
        WitnessRow row = new WitnessRow();
        row.variable(0);
        row.variable(1);
        row.number(0);
        row.number(1);
        return row;
    }

    /** The row with 60 formulas: x = x, and 59 times all of what is ahead. */
    private static WitnessRow full() {
        WitnessRow row = row();
        int last = row.equal(0, 0);
        for (int count = 1; count < 60; count++) {
            last = row.bind('A', 0, last);
        }
        return row;
    }

    private static void compared() {
        WitnessRow row = row();
        Check.due("x = y", 0, () -> row.equal(0, 1));
        Check.due("y = x", 1, () -> row.equal(1, 0));
        Check.due("x < y", 2, () -> row.less(0, 1));
        Check.due("x < x", 3, () -> row.less(0, 0));
        Check.due("x = y again", 0, () -> row.equal(0, 1));
        Check.due("x < y again", 2, () -> row.less(0, 1));
        for (int wrong : new int[] {-1, 4, LOW, HIGH}) {
            Check.noIndex("equal of " + wrong, () -> row.equal(wrong, 0));
            Check.noIndex("equal with " + wrong, () -> row.equal(0, wrong));
            Check.noIndex("less of " + wrong, () -> row.less(wrong, 0));
            Check.noIndex("less with " + wrong, () -> row.less(0, wrong));
        }
        WitnessRow full = full();
        Check.due("x = x of a full row", 0, () -> full.equal(0, 0));
        Check.noRoom("equal of a full row", () -> full.equal(0, 1));
        Check.noRoom("less of a full row", () -> full.less(0, 1));
        Check.noIndex("no term of a full row", () -> full.less(0, 4));
        int fifty = longTerm(full);
        Check.unsupported("too long comes ahead of no room", () -> full.equal(fifty, fifty));
    }

    /** A term of 51 parts. */
    private static int longTerm(WitnessRow row) {
        int x = row.variable(0);
        int seven = row.plus(row.plus(x, x), row.plus(x, x));
        int fifteen = row.plus(seven, seven);
        int thirtyOne = row.plus(fifteen, fifteen);
        return row.plus(thirtyOne, row.plus(fifteen, row.plus(x, x)));
    }

    private static void tooLong() {
        WitnessRow row = row();
        int x = 0;
        int seven = row.plus(row.plus(x, x), row.plus(x, x));
        int fifteen = row.plus(seven, seven);
        int thirtyOne = row.plus(fifteen, fifteen);
        int fortySeven = row.plus(thirtyOne, fifteen);
        int fiftyOne = longTerm(row);
        // 1 + 51 + 47 is 99 parts; 1 + 51 + 49 is 101.
        int fortyNine = row.plus(fortySeven, x);
        Check.due("99 parts are equal", 0, () -> row.equal(fiftyOne, fortySeven));
        Check.unsupported("101 parts are equal", () -> row.equal(fiftyOne, fortyNine));
        Check.unsupported("101 parts are less", () -> row.less(fortyNine, fiftyOne));
        Check.due("99 parts are less", 1, () -> row.less(fiftyOne, fortySeven));
        // What is bound is one part more, the variable aside.
        Check.due("100 parts", 2, () -> row.bind('E', 0, 0));
        Check.unsupported("101 parts", () -> row.bind('E', 0, 2));
        int small = row.equal(x, x);
        Check.unsupported("99 and 3 and one", () -> row.join(0, '&', small));
        Check.unsupported("100 and 3 and one", () -> row.join(small, '>', 2));
        int fifty = row.bind('A', 1, row.equal(fortySeven, x));
        int fortyEight = row.equal(fortySeven, x);
        Check.due("50 and 49 and one", 6, () -> row.join(fifty, '|', fortyEight));
        Check.unsupported("50 and 50 and one", () -> row.join(fifty, '|', fifty));
    }

    private static void join() {
        WitnessRow row = row();
        int f = row.equal(0, 1);
        int g = row.less(0, 1);
        Check.due("both", 2, () -> row.join(f, '&', g));
        Check.due("one or the other", 3, () -> row.join(f, '|', g));
        Check.due("follows", 4, () -> row.join(f, '>', g));
        Check.due("the other way", 5, () -> row.join(g, '>', f));
        Check.due("of itself", 6, () -> row.join(f, '>', f));
        Check.due("both again", 2, () -> row.join(f, '&', g));
        for (char way : NO_JOIN) {
            Check.noArgument("join by " + way, () -> row.join(f, way, g));
            Check.noIndex("join by " + way + " of no formula", () -> row.join(f, way, 7));
        }
        for (int wrong : new int[] {-1, 7, LOW, HIGH}) {
            Check.noIndex("join of " + wrong, () -> row.join(wrong, '&', f));
            Check.noIndex("join with " + wrong, () -> row.join(f, '&', wrong));
        }
        WitnessRow full = full();
        Check.noRoom("join of a full row", () -> full.join(0, '&', 0));
        Check.noArgument("join by no way of a full row", () -> full.join(0, 'x', 0));
        Check.unsupported("too long a one of a full row", () -> full.join(59, '&', 59));
    }

    private static void bind() {
        WitnessRow row = row();
        int f = row.equal(0, 1);
        Check.due("all", 1, () -> row.bind('A', 0, f));
        Check.due("some", 2, () -> row.bind('E', 0, f));
        Check.due("some of another one", 3, () -> row.bind('E', 5, f));
        Check.due("all again", 1, () -> row.bind('A', 0, f));
        for (char way : NO_BIND) {
            Check.noArgument("bind by " + way, () -> row.bind(way, 0, f));
            Check.noIndex("bind by " + way + " of no formula", () -> row.bind(way, 0, 4));
        }
        for (int wrong : new int[] {-1, 6, LOW, HIGH}) {
            Check.noArgument("bind of the variable " + wrong, () -> row.bind('A', wrong, f));
            Check.noIndex("bind of the formula " + wrong, () -> row.bind('A', 9, wrong));
        }
        WitnessRow full = full();
        Check.due("all of a full row", 1, () -> full.bind('A', 0, 0));
        Check.noRoom("some of a full row", () -> full.bind('E', 0, 0));
        Check.noArgument("no variable of a full row", () -> full.bind('E', 6, 0));
    }

    private static void looks() {
        WitnessRow row = row();
        int equal = row.equal(3, 1);
        int less = row.less(1, 2);
        int both = row.join(less, '&', equal);
        int either = row.join(equal, '|', both);
        int follows = row.join(either, '>', less);
        int all = row.bind('A', 4, follows);
        int some = row.bind('E', 1, all);
        looks(row, equal, '=', 3, 1);
        looks(row, less, '<', 1, 2);
        looks(row, both, '&', less, equal);
        looks(row, either, '|', equal, both);
        looks(row, follows, '>', either, less);
        looks(row, all, 'A', 4, follows);
        looks(row, some, 'E', 1, all);
        for (int wrong : new int[] {-1, 7, LOW, HIGH}) {
            Check.noIndex("kindOf " + wrong, () -> row.kindOf(wrong));
            Check.noIndex("within " + wrong, () -> row.within(wrong, false));
        }
    }

    private static void looks(WitnessRow row, int formula, char kind, int first, int second) {
        Check.due("kindOf " + formula, kind, () -> row.kindOf(formula));
        Check.due("the first within " + formula, first, () -> row.within(formula, false));
        Check.due("the second within " + formula, second, () -> row.within(formula, true));
    }

    private static void isFree() {
        WitnessRow row = row();
        int f = row.less(0, row.times(1, row.variable(3)));
        int all = row.bind('A', 0, f);
        int mixed = row.join(all, '&', row.bind('E', 1, f));
        int free = row.join(row.equal(0, 0), '>', all);
        due(row, f, true, true, false, true, false, false);
        due(row, all, false, true, false, true, false, false);
        due(row, mixed, true, true, false, true, false, false);
        due(row, free, true, true, false, true, false, false);
        due(row, row.bind('E', 3, row.bind('A', 1, all)), false, false, false, false, false, false);
        due(row, row.bind('E', 2, f), true, true, false, true, false, false);
        for (int wrong : new int[] {-1, 6, LOW, HIGH}) {
            Check.noArgument("isFree of the variable " + wrong, () -> row.isFree(f, wrong));
        }
        for (int wrong : new int[] {-1, 60, LOW, HIGH}) {
            Check.noIndex("isFree of the formula " + wrong, () -> row.isFree(wrong, 6));
        }
    }

    private static void due(WitnessRow row, int formula, boolean... wants) {
        for (int v = 0; v < 6; v++) {
            int variable = v;
            Check.due("isFree " + formula + " " + v, wants[v], () -> row.isFree(formula, variable));
        }
    }

    private static void put() {
        WitnessRow row = row();
        int x = 0;
        int y = 1;
        int sum = row.plus(x, y);
        // (y + x < x) and all x: x = y, with x + y in place of x, where it is free.
        int less = row.less(row.plus(y, x), x);
        int all = row.bind('A', 0, row.equal(x, y));
        int both = row.join(less, '&', all);
        Check.due("put", 5, () -> row.put(both, 0, sum));
        looks(row, 5, '&', 4, all);
        looks(row, 4, '<', 6, sum);
        Check.due("put again", 5, () -> row.put(both, 0, sum));
        Check.due("nowhere free", all, () -> row.put(all, 0, sum));
        Check.due("of itself", both, () -> row.put(both, 0, x));
        Check.due("not there", both, () -> row.put(both, 4, sum));
        Check.unsupported("x would be bound", () -> row.put(both, 1, sum));
        Check.unsupported("x itself would be bound", () -> row.put(all, 1, x));
        Check.due("a number is not bound", 7, () -> row.put(all, 1, 3));
        looks(row, 7, 'A', 0, 6);
        looks(row, 6, '=', x, 3);
        for (int wrong : new int[] {-1, 8, LOW, HIGH}) {
            Check.noIndex("put into " + wrong, () -> row.put(wrong, 6, x));
            Check.noIndex("put the term " + wrong, () -> row.put(both, 6, wrong));
        }
        for (int wrong : new int[] {-1, 6, LOW, HIGH}) {
            Check.noArgument("put for the variable " + wrong, () -> row.put(both, wrong, x));
        }
        Check.noArgument("no variable comes ahead of one that is bound", () -> row.put(all, 6, x));
    }

    /** What comes is numbered behind its parts, the first ones first, in terms and formulas. */
    private static void order() {
        WitnessRow row = row();
        int v = row.variable(2);
        int left = row.times(row.plus(v, 0), row.plus(1, v));
        int first = row.less(left, v);
        int second = row.equal(v, row.plus(v, v));
        int all = row.bind('E', 3, row.join(second, '>', first));
        int number = row.number(7);
        Check.due("put", 7, () -> row.put(all, 2, number));
        looks(row, 7, 'E', 3, 6);
        looks(row, 6, '>', 4, 5);
        looks(row, 4, '=', number, 10);
        looks(row, 5, '<', 13, number);
        Check.due("7 + x", 11, () -> row.plus(number, 0));
        Check.due("y + 7", 12, () -> row.plus(1, number));
        Check.due("16 terms are not there yet", 14, () -> row.number(16));
    }

    private static void bound() {
        WitnessRow row = row();
        int x = 0;
        int y = 1;
        int plain = row.less(x, y);
        // y is bound aside of x, and x bound by itself further in.
        int aside = row.join(plain, '&', row.bind('A', 1, row.equal(y, y)));
        int outside = row.bind('E', 1, row.bind('A', 0, plain));
        int inside = row.bind('A', 1, row.join(row.bind('E', 0, plain), '&', row.equal(y, y)));
        int under = row.bind('A', 2, row.bind('E', 1, plain));
        Check.due("bound aside of it", 'E', () -> row.kindOf(row.put(row.bind('E', 3, aside), 0, y)));
        Check.due("not free", outside, () -> row.put(outside, 0, y));
        Check.due("not free within", inside, () -> row.put(inside, 0, y));
        Check.unsupported("bound further in", () -> row.put(under, 0, y));
        Check.unsupported("bound as a part", () -> row.put(under, 0, row.plus(y, 3)));
        Check.due("another one is not bound", 'A', () -> row.kindOf(row.put(under, 0, row.variable(3))));
        Check.unsupported("bound outermost", () -> row.put(under, 0, row.variable(2)));
    }

    private static void putTooLong() {
        WitnessRow row = row();
        int x = 0;
        int many = x;
        for (int count = 1; count < 14; count++) {
            many = row.plus(many, x);
        }
        // 27 parts, and x = 1 + 1, 5 parts: 31 parts, 14 times x; with 5 parts in place of x it is 31 + 14 * 4 + 4.
        int equality = row.equal(many, row.plus(3, 3));
        int three = row.plus(3, 3);
        int five = row.plus(three, 3);
        int seven = row.plus(five, 3);
        Check.due("31 + 14 * 4 parts are 87", '=', () -> row.kindOf(row.put(equality, 0, five)));
        Check.unsupported("31 + 14 * 6 parts are 115", () -> row.put(equality, 0, seven));
        WitnessRow edge = row();
        // 1 + 1 + 63 and 1 + 1 + 65 parts.
        int whole = edge.join(edge.equal(x, 3), '&', edge.equal(x, 3));
        int term = 3;
        for (int count = 1; count < 24; count++) {
            term = edge.plus(term, 3);
        }
        int fortySeven = term;
        int fortyNine = edge.plus(term, 3);
        Check.due("7 + 2 * 46 parts are 99", '&', () -> edge.kindOf(edge.put(whole, 0, fortySeven)));
        Check.unsupported("7 + 2 * 48 parts are 103", () -> edge.put(whole, 0, fortyNine));
        int bound = edge.bind('A', 3, whole);
        Check.due("100 parts", 'A', () -> edge.kindOf(edge.put(bound, 0, fortySeven)));
        int twice = edge.bind('A', 3, bound);
        Check.unsupported("101 parts", () -> edge.put(twice, 0, fortySeven));
    }

    private static void putWithoutRoom() {
        WitnessRow row = row();
        int f = row.join(row.less(row.plus(0, 3), row.times(0, 0)), '&', row.equal(0, 0));
        for (int value = 2; value < 53; value++) {
            row.number(value);
        }
        // 59 terms; with 2 in place of x, 2 + 1 and 2 * 2 come.
        int two = row.number(2);
        row.number(60);
        row.number(61);
        long before = row.checksum();
        Check.noRoom("one term too many", () -> row.put(f, 0, two));
        Check.due("nothing has changed", before, row::checksum);
        Check.due("not there: nothing is told", f, () -> row.put(f, 1, two));
        Check.due("room for one", 59, () -> row.plus(two, 3));
        Check.noRoom("still one term too many", () -> row.put(f, 0, two));
        WitnessRow full = full();
        Check.noRoom("no room for formulas", () -> full.put(full.equal(0, 0), 0, 1));
        Check.due("nothing is told in a full row", 59, () -> full.put(59, 0, 1));
        Check.noRoom("no room, again", () -> full.put(0, 0, full.number(9)));
        WitnessRow last = row();
        int g = last.join(last.less(0, 1), '&', last.equal(0, 1));
        for (int value = 3; value < 58; value++) {
            last.equal(3, last.number(value - 3));
        }
        // 58 formulas: two more would fit, three do not.
        long ahead = last.checksum();
        Check.noRoom("one formula too many", () -> last.put(g, 0, 3));
        Check.due("nothing has changed there", ahead, last::checksum);
        Check.due("two formulas fit", 58, () -> last.less(3, 1));
        Check.noRoom("still one too many", () -> last.put(g, 0, 3));
        Check.due("room for the last one", 59, () -> last.bind('A', 0, 0));
    }

    public static void main(String[] args) {
        compared();
        tooLong();
        join();
        bind();
        looks();
        isFree();
        put();
        order();
        bound();
        putTooLong();
        putWithoutRoom();
        Check.end();
    }
}
