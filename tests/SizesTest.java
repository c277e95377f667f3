/**
 * What is too great, too long or too little by one: terms multiplied out, facts, parts of what put() and the rules
 * make, labels and variables from the first to the last.
 */
public final class SizesTest {
    private static void same(WitnessRow row, String what, boolean want, int term, int other) {
        Check.due("6 areSame of " + what, want, () -> row.areSame(term, other));
        Check.due("6 areSame of " + what + ", turned", want, () -> row.areSame(other, term));
    }

    private static void fact(WitnessRow row, String what, boolean isFact, int formula) {
        Check.due("16 fact " + what, isFact ? "told" : "throws.UnsupportedOperationException", () -> {
            row.fact(formula);
            return "told";
        });
    }

    /** The number is 1000 times 1000, by 10. */
    private static int million(WitnessRow row) {
        int ten = row.number(10);
        int thousand = row.times(ten, row.times(ten, ten));
        return row.times(thousand, thousand);
    }

    private static void numbersInFront() {
        WitnessRow row = new WitnessRow();
        int million = million(row);
        int x = row.variable(0);
        int two = row.number(2);
        same(row, "a million and itself", true, million, million);
        same(row, "a million x and itself", true, row.times(million, x), row.times(x, million));
        int twice = row.times(million, two);
        same(row, "two millions and itself", false, twice, twice);
        same(row, "two millions and a million", false, twice, million);
        int twiceX = row.times(twice, x);
        same(row, "two million x and itself", false, twiceX, twiceX);
        int halfX = row.times(row.times(row.number(50), row.times(row.number(10), row.times(two, x))),
                row.times(row.number(10), row.times(row.number(10), row.number(10))));
        same(row, "a million x, put together", true, halfX, row.times(x, million));
        int sum = row.plus(halfX, x);
        same(row, "a million x and x, and itself", false, sum, sum);
        int square = row.times(million, million);
        same(row, "a million millions and itself", false, square, square);
        // 4295 millions are 32704 beyond 2 to the 32nd.
        int wrapped = row.times(million, row.plus(row.times(row.number(99), row.number(43)), row.number(38)));
        same(row, "4295 millions and itself", false, wrapped, wrapped);
        int word = row.times(row.number(64), row.times(row.number(32), row.number(32)));
        int round = row.times(word, word);
        same(row, "2 to the 32nd and itself", false, round, round);
        same(row, "2 to the 32nd and 0", false, round, row.number(0));
    }

    private static void partsTooGreat() {
        WitnessRow row = new WitnessRow();
        int zero = row.number(0);
        int x = row.variable(0);
        int more = row.plus(million(row), row.number(1));
        int none = row.times(zero, more);
        same(row, "0 times what is too great, and 0", false, none, zero);
        same(row, "a sum with it, and itself", false, row.plus(x, none), row.plus(x, none));
        same(row, "a product of a product with it, and 0", false, row.times(row.times(none, x), zero), zero);
        int cube = row.times(x, row.times(x, x));
        int seventh = row.times(cube, row.times(cube, x));
        same(row, "0 times a product of 7 variables, and 0", false, row.times(zero, seventh), zero);
        fact(row, "0 = 0 times what is too great", false, row.equal(zero, none));
        fact(row, "0 < 1 and 0 times what is too great", false, row.less(zero, row.plus(row.number(1), none)));
        fact(row, "0 times what is too great < 1", false, row.less(none, row.number(1)));
        fact(row, "what is too great = itself", false, row.equal(more, more));
        fact(row, "0 < what is too great", false, row.less(zero, more));
        fact(row, "0 < a million", true, row.less(zero, million(row)));
    }

    private static void variablesInProducts() {
        WitnessRow row = new WitnessRow();
        int one = row.number(1);
        int[] v = new int[6];
        int all = one;
        for (int i = 0; i < 6; i++) {
            v[i] = row.variable(i);
            all = row.times(all, v[i]);
        }
        same(row, "the product of all variables", true, all, row.times(all, one));
        for (int i = 0; i < 6; i++) {
            int seven = row.times(all, v[i]);
            same(row, "a product of 7, with the variable twice " + i, false, seven, seven);
        }
        int square = row.times(v[5], v[5]);
        int cube = row.times(square, v[5]);
        same(row, "3 and 3 of the last variable", true, row.times(cube, cube), row.times(square, row.times(square, square)));
        int seventh = row.times(cube, row.times(square, square));
        same(row, "3 and 4 of the last variable", false, seventh, seventh);
        int sum = row.plus(one, seventh);
        same(row, "a sum with 7 in one of it", false, sum, sum);
    }

    /** (1 + a + b + c) to the third is 20 products, and times (d + e + 1) 60. */
    private static void products() {
        WitnessRow row = new WitnessRow();
        int one = row.number(1);
        int zero = row.number(0);
        int four = row.plus(row.plus(one, row.variable(0)), row.plus(row.variable(1), row.variable(2)));
        int twenty = row.times(four, row.times(four, four));
        int three = row.plus(one, row.plus(row.variable(3), row.variable(4)));
        int sixty = row.times(twenty, three);
        int turned = row.times(three, twenty);
        same(row, "60 products", true, sixty, turned);
        fact(row, "60 products = 60 products", true, row.equal(sixty, turned));
        same(row, "60 products and one more", false, row.plus(sixty, row.variable(5)), row.plus(sixty, row.variable(5)));
        same(row, "60 products and one of them", true, row.plus(sixty, one), row.plus(one, sixty));
        int more = row.plus(sixty, row.variable(5));
        same(row, "0 times 61 products, and 0", false, row.times(more, zero), zero);
        fact(row, "61 products = 61 products", false, row.equal(more, more));
        fact(row, "60 products < 60 products and 1", true, row.less(sixty, row.plus(sixty, one)));
    }

    private static void facts() {
        WitnessRow row = new WitnessRow();
        int x = row.variable(0);
        int y = row.variable(1);
        int zero = row.number(0);
        int one = row.number(1);
        int two = row.number(2);
        int next = row.plus(x, one);
        fact(row, "0 < 1", true, row.less(zero, one));
        fact(row, "1 < 1", false, row.less(one, one));
        fact(row, "0 < 0", false, row.less(zero, zero));
        fact(row, "1 < 0", false, row.less(one, zero));
        fact(row, "1 < 2", true, row.less(one, two));
        fact(row, "2 < 1", false, row.less(two, one));
        fact(row, "98 < 99", true, row.less(row.number(98), row.number(99)));
        fact(row, "x < x + 1", true, row.less(x, next));
        fact(row, "x + 1 < x + 1", false, row.less(next, next));
        fact(row, "x + 1 < 1 + x", false, row.less(next, row.plus(one, x)));
        fact(row, "x + 1 < x + 2", true, row.less(next, row.plus(x, two)));
        fact(row, "x + 1 < x", false, row.less(next, x));
        fact(row, "x < x + y", false, row.less(x, row.plus(x, y)));
        fact(row, "x < (x + y) + 1", true, row.less(x, row.plus(row.plus(x, y), one)));
        fact(row, "x + 1 < (x + y) + 1", false, row.less(next, row.plus(row.plus(x, y), one)));
        fact(row, "x + 1 < 2, x taken away", false, row.less(next, two));
        fact(row, "2 x < x + 1, one x taken away", false, row.less(row.times(two, x), next));
        fact(row, "x < 2 x + 1", true, row.less(x, row.plus(row.times(x, two), one)));
        fact(row, "0 = 0 x", true, row.equal(zero, row.times(zero, x)));
        fact(row, "0 = 1", false, row.equal(zero, one));
        fact(row, "x = x + 1", false, row.equal(x, next));
        fact(row, "1 = 1 and itself", false, row.join(row.equal(one, one), '&', row.equal(one, one)));
    }

    /** Formulas of 48, 49, 50 and 51 parts, each proved from the label 5. */
    private static void hundredParts() {
        WitnessRow row = new WitnessRow();
        int x = row.variable(0);
        int term = x;
        for (int count = 0; count < 22; count++) {
            term = row.plus(term, x);
        }
        int fortySeven = row.equal(term, x);
        int fortyNine = row.equal(row.plus(term, x), x);
        int fifty = row.bind('E', 1, fortyNine);
        int fiftyOne = row.bind('E', 1, fifty);
        int ninetyEight = row.bind('A', 2, row.join(fortyNine, '&', fortySeven));
        int ninetyNine = row.bind('A', 2, ninetyEight);
        int hundred = row.bind('A', 2, ninetyNine);
        Check.unsupported("10 bind what has 100 parts", () -> row.bind('A', 2, hundred));
        int byFifty = row.assume(5, fifty);
        int byFiftyOne = row.assume(5, fiftyOne);
        int byFortyNine = row.assume(4, fortyNine);
        for (char way : new char[] {'&', '|', '>'}) {
            Check.due("9 join 49 and 50 by " + way, way, () -> row.kindOf(row.join(fortyNine, way, fifty)));
            Check.unsupported("9 join 50 and 50 by " + way, () -> row.join(fifty, way, fifty));
            Check.unsupported("9 join 49 and 51 by " + way, () -> row.join(fortyNine, way, fiftyOne));
        }
        proves(row, "17 both of 49 and 50", '&', () -> row.both(byFortyNine, byFifty));
        Check.unsupported("17 both of 50 and 50", () -> row.both(byFifty, byFifty));
        proves(row, "19 either of 50, and 49", '|', () -> row.either(byFifty, fortyNine, true));
        proves(row, "19 either of 49, and 50", '|', () -> row.either(byFifty, fortyNine, false));
        Check.unsupported("19 either of 50, and 50", () -> row.either(byFifty, fifty, true));
        Check.unsupported("19 either of 50, and 50, turned", () -> row.either(byFifty, fifty, false));
        proves(row, "21 suppose 49 for 50", '>', () -> row.suppose(byFifty, 0, fortyNine));
        Check.unsupported("21 suppose 50 for 50", () -> row.suppose(byFifty, 0, fifty));
        Check.unsupported("21 suppose 49 for 51", () -> row.suppose(byFiftyOne, 0, fortyNine));
        proves(row, "23 generalize 99 parts", 'A', () -> row.generalize(row.assume(3, ninetyNine), 2));
        Check.unsupported("23 generalize 100 parts", () -> row.generalize(row.assume(3, hundred), 2));
        proves(row, "29 decide 47 parts, 99 in all", '|', () -> row.decide(fortySeven));
        Check.unsupported("29 decide 49 parts, 103 in all", () -> row.decide(fortyNine));
    }

    private interface Rule {
        int told();
    }

    private static void proves(WitnessRow row, String what, char kind, Rule rule) {
        Check.due(what, kind, () -> row.kindOf(row.formulaOf(rule.told())));
    }

    /** x + 1 in place of z makes 2 parts more of one; all of it makes them 99, 100 or 101. */
    private static void placedParts() {
        WitnessRow row = new WitnessRow();
        int x = row.variable(0);
        int z = row.variable(2);
        int next = row.plus(x, row.number(1));
        int term = x;
        for (int count = 0; count < 46; count++) {
            term = row.plus(term, x);
        }
        // z = x + .. + x is 95 parts, 97 with x + 1 in place of z, and one more with each all that binds y.
        int[] bound = new int[5];
        bound[0] = row.equal(z, term);
        for (int count = 1; count < 5; count++) {
            bound[count] = row.bind('A', 1, bound[count - 1]);
        }
        int equality = row.assume(0, row.equal(z, next));
        for (int count = 2; count < 5; count++) {
            boolean isShort = count < 4;
            String parts = " makes it " + (97 + count) + " parts";
            int formula = bound[count];
            int assumed = row.assume(1, formula);
            placed(isShort, "14 put" + parts, () -> row.put(formula, 2, next));
            placed(isShort, "28 rewrite" + parts, () -> row.rewrite(equality, assumed, formula, 2));
        }
        int all = row.assume(2, row.bind('A', 2, bound[3]));
        int more = row.assume(2, row.bind('A', 2, bound[4]));
        placed(true, "24 specialize to 100 parts", () -> row.specialize(all, next));
        placed(false, "24 specialize to 101 parts", () -> row.specialize(more, next));
        placed(true, "24 specialize to 99 parts", () -> row.specialize(more, z));
    }

    private static void placed(boolean isShort, String what, Rule rule) {
        Check.due(what, isShort ? "told" : "throws.UnsupportedOperationException", () -> {
            rule.told();
            return "told";
        });
    }

    /** A variable that would be bound in the first or the second part, or further in; what is bound itself is left. */
    private static void bound() {
        WitnessRow row = new WitnessRow();
        int x = row.variable(0);
        int y = row.variable(1);
        int less = row.less(x, y);
        int same = row.equal(x, x);
        int some = row.bind('E', 1, less);
        int aside = row.bind('E', 1, row.equal(y, y));
        int itself = row.bind('A', 0, some);
        for (char way : new char[] {'&', '|', '>'}) {
            int first = row.join(some, way, same);
            int second = row.join(same, way, some);
            Check.unsupported("14 bound in the first of " + way, () -> row.put(first, 0, y));
            Check.unsupported("14 bound in the second of " + way, () -> row.put(second, 0, y));
            Check.unsupported("14 bound in a sum in the first of " + way, () -> row.put(first, 0, row.plus(x, y)));
            int apart = row.join(same, way, aside);
            Check.due("14 bound where x is not, by " + way, aside, () -> row.within(row.put(apart, 0, y), true));
            int left = row.join(same, way, itself);
            Check.due("14 x is bound there itself, by " + way, itself, () -> row.within(row.put(left, 0, y), true));
            int deep = row.bind('A', 3, row.join(aside, way, row.bind('A', 2, first)));
            Check.unsupported("14 bound further in by " + way, () -> row.put(deep, 0, y));
            Check.due("14 nothing of 7 is bound by " + way, 'A', () -> row.kindOf(row.put(deep, 0, row.number(7))));
        }
        Check.due("14 x in place of x is not bound by y", some, () -> row.put(some, 0, x));
        Check.due("14 y is bound itself", some, () -> row.put(some, 1, y));
    }

    /** Each label and each variable is one by itself, from 0 to 5. */
    private static void labels() {
        WitnessRow row = new WitnessRow();
        int[] formulas = new int[6];
        int all = -1;
        for (int l = 0; l < 6; l++) {
            int label = l;
            formulas[label] = row.equal(row.variable(label), row.variable(label));
            int assumed = row.assume(label, formulas[label]);
            Check.due("32 the bit of the label " + label, 1 << label, () -> row.openLabels(assumed));
            all = label == 0 ? assumed : row.both(all, assumed);
        }
        int open = all;
        Check.due("32 all labels are open", 63, () -> row.openLabels(open));
        for (int l = 0; l < 6; l++) {
            int label = l;
            Check.due("33 the formula of the label " + label, formulas[label], () -> row.labelOf(open, label));
            Check.due("13 the variable " + label + " is free in it", true, () -> row.isFree(formulas[label], label));
            Check.unsupported("23 the variable " + label + " is free in it", () -> row.generalize(open, label));
            int closed = row.suppose(open, label, formulas[label]);
            Check.due("21 closes the label " + label, 63 - (1 << label), () -> row.openLabels(closed));
            Check.due("23 the variable " + label + " is free no more", 63 - (1 << label),
                    () -> row.openLabels(row.generalize(closed, label)));
        }
    }

    public static void main(String[] args) {
        numbersInFront();
        partsTooGreat();
        variablesInProducts();
        products();
        facts();
        hundredParts();
        placedParts();
        bound();
        labels();
        Check.end();
    }
}
