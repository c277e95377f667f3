/** Promises 37 to 42, and 46 beside the runs. */
public final class RunsTest {
    private static final int[] NO_PROOF = {-1, 60, Integer.MIN_VALUE, Integer.MAX_VALUE};
    private static final int[] NO_INPUT = {-1, 31, Integer.MIN_VALUE, Integer.MAX_VALUE};

    private static final int X = 0;
    private static final int Y = 1;
    private static final int ZERO = 2;
    private static final int ONE = 3;
    private static final int TWO = 4;
    private static final int THREE = 5;
    private static final int NEXT = 6;
    private static final int Z = 7;

    /** Terms: x, y, 0, 1, 2, 3, x + 1, z. */
    private static WitnessRow row() {
        WitnessRow row = new WitnessRow();
        row.variable(0);
        row.variable(1);
        row.number(0);
        row.number(1);
        row.number(2);
        row.number(3);
        row.plus(0, 3);
        row.variable(2);
        return row;
    }

    private static void runs(WitnessRow row, String what, int proof, int input, int number, int steps) {
        Check.due(what + " for " + input, number, () -> row.run(proof, input));
        Check.due("steps of " + what + " for " + input, steps, row::steps);
    }

    private static void gives(WitnessRow row, String what, int proof, int number, int steps) {
        Check.due("witness of " + what, number, () -> row.witness(proof));
        Check.due("steps of " + what, steps, row::steps);
    }

    private static void chooses(WitnessRow row, String what, int proof, int input, boolean isFirst, int steps) {
        Check.due("choice of " + what + " for " + input, isFirst, () -> row.choice(proof, input));
        Check.due("steps of " + what + " for " + input, steps, row::steps);
    }

    /** A proof that there is some y that is y, which gives a number: exhibit() of fact(), two steps. */
    private static int giving(WitnessRow row, int term) {
        int y = row.variable(1);
        int some = row.bind('E', 1, row.equal(y, y));
        return row.exhibit(row.fact(row.equal(term, term)), some, term);
    }

    private static void simple() {
        WitnessRow row = row();
        int some = row.bind('E', 1, row.less(X, Y));
        int shown = row.exhibit(row.fact(row.less(X, NEXT)), some, NEXT);
        int all = row.generalize(shown, 0);
        Check.due("no steps yet", 0, row::steps);
        runs(row, "the next one", all, 0, 1, 3);
        runs(row, "the next one", all, 30, 31, 3);
        gives(row, "the next one of none", shown, 1, 2);
        gives(row, "the next one of 3", row.specialize(all, THREE), 4, 4);
        gives(row, "the next one of x, which is 0", row.specialize(all, X), 1, 4);
        int twice = row.specialize(row.generalize(row.specialize(all, row.plus(X, X)), 0), THREE);
        gives(row, "the next one of twice 3", twice, 7, 6);
        for (int wrong : NO_PROOF) {
            Check.noIndex("run " + wrong, () -> row.run(wrong, 99));
            Check.noIndex("witness of " + wrong, () -> row.witness(wrong));
            Check.noIndex("choice of " + wrong, () -> row.choice(wrong, 99));
        }
        for (int wrong : NO_INPUT) {
            Check.noArgument("run for " + wrong, () -> row.run(shown, wrong));
            Check.noArgument("choice for " + wrong, () -> row.choice(shown, wrong));
        }
        Check.unsupported("run what is of some only", () -> row.run(shown, 1));
        Check.unsupported("witness of all", () -> row.witness(all));
        Check.unsupported("choice of some within all", () -> row.choice(all, 1));
        int twiceAll = row.generalize(all, 3);
        Check.unsupported("run what is of all of all", () -> row.run(twiceAll, 1));
        int open = row.assume(0, row.formulaOf(shown));
        Check.unsupported("witness of what is open", () -> row.witness(open));
        int openAll = row.assume(0, row.formulaOf(all));
        Check.unsupported("run what is open", () -> row.run(openAll, 1));
        Check.due("the steps are those of the last run", 6, row::steps);
        Check.due("the row is sound", true, row::isSound);
        Check.due("the check is no run", 6, row::steps);
    }

    private static void choosing() {
        WitnessRow row = row();
        int less = row.less(X, THREE);
        int decided = row.decide(less);
        int all = row.generalize(decided, 0);
        chooses(row, "less than 3", all, 2, true, 2);
        chooses(row, "less than 3", all, 3, false, 2);
        int never = row.fact(row.less(X, NEXT));
        int first = row.generalize(row.either(never, less, true), 0);
        int second = row.generalize(row.either(never, less, false), 0);
        chooses(row, "either first", first, 9, true, 3);
        chooses(row, "either second", second, 9, false, 3);
        int back = row.join(row.join(less, '>', row.equal(ZERO, ONE)), '|', less);
        int turned = row.cases(decided, row.either(row.assume(0, less), row.within(back, false), false),
                row.either(row.assume(0, row.within(back, false)), less, true), 0);
        int turnedAll = row.generalize(turned, 0);
        chooses(row, "the other way", turnedAll, 2, false, 5);
        chooses(row, "the other way", turnedAll, 3, true, 5);
        Check.unsupported("choice of one or the other only", () -> row.choice(decided, 1));
        int open = row.assume(5, row.formulaOf(all));
        Check.unsupported("choice of what is open", () -> row.choice(open, 1));
        Check.unsupported("choice of all of what is plain", () -> row.choice(row.generalize(never, 0), 1));
        Check.due("the steps are those of the last run", 5, row::steps);
    }

    /** cases() of decide(): only the one that is chosen is evaluated. */
    private static void cases() {
        WitnessRow row = row();
        int less = row.less(X, TWO);
        int one = giving(row, ONE);
        int next = row.part(row.both(giving(row, NEXT), row.assume(0, less)), false);
        int all = row.generalize(row.cases(row.decide(less), next, one, 0), 0);
        // generalize, cases, decide, and then part, both, exhibit, fact and assume, or exhibit and fact.
        runs(row, "the next one below 2", all, 1, 2, 8);
        runs(row, "1 from 2 on", all, 2, 1, 5);
        Check.due("sound", true, row::isSound);
    }

    /** What decide() gives of itself is seen by looking into it. */
    private static void given() {
        WitnessRow row = row();
        // So that terms and formulas of the same number are unlike.
        for (int term = X; term <= NEXT; term++) {
            row.less(NEXT, term);
        }
        int isOne = row.equal(X, ONE);
        int small = row.less(X, TWO);
        int either = row.join(isOne, '|', small);
        int looked = row.cases(row.assume(0, either), giving(row, ONE), giving(row, TWO), 1);
        int all = row.generalize(row.cases(row.decide(either), looked, giving(row, THREE), 0), 0);
        runs(row, "the first one that is true", all, 0, 2, 7);
        runs(row, "the first one of two that are true", all, 1, 1, 7);
        runs(row, "none that is true", all, 2, 3, 5);
        int pair = row.join(row.equal(X, X), '&', either);
        int part = row.cases(row.part(row.assume(0, pair), true), giving(row, ONE), giving(row, TWO), 1);
        int pairs = row.generalize(row.cases(row.decide(pair), part, giving(row, THREE), 0), 0);
        runs(row, "a pair", pairs, 0, 2, 8);
        runs(row, "a pair", pairs, 1, 1, 8);
        runs(row, "a pair", pairs, 2, 3, 5);
        int same = row.equal(X, X);
        int follows = row.join(same, '>', either);
        int applied = row.cases(row.apply(row.assume(0, follows), row.fact(same)), giving(row, ONE),
                giving(row, TWO), 1);
        int functions = row.generalize(row.cases(row.decide(follows), applied, giving(row, THREE), 0), 0);
        runs(row, "a function", functions, 0, 2, 9);
        runs(row, "a function", functions, 1, 1, 9);
        runs(row, "a function", functions, 2, 3, 5);
        Check.due("sound", true, row::isSound);
    }

    /** Functions keep what variables and labels were when they came. */
    private static void functions() {
        WitnessRow row = row();
        int some = row.bind('E', 1, row.equal(Y, Y));
        int two = giving(row, TWO);
        int identity = row.suppose(row.assume(0, some), 0, some);
        gives(row, "what is applied", row.apply(identity, two), 2, 5);
        int constant = row.suppose(giving(row, X), 0, some);
        int atThree = row.specialize(row.generalize(row.apply(constant, two), 0), THREE);
        gives(row, "x within", atThree, 3, 8);
        // Of all x what follows gives x; it is made with 2, and applied where x is 3.
        int madeAtTwo = row.specialize(row.generalize(constant, 0), TWO);
        int later = row.specialize(row.generalize(row.apply(madeAtTwo, giving(row, X)), 0), THREE);
        gives(row, "x when the function came", later, 2, 10);
        // The label 0 inside is not the one outside.
        int inside = row.apply(identity, two);
        int both = row.both(inside, row.assume(0, some));
        int outside = row.suppose(row.part(both, true), 0, some);
        gives(row, "the label outside", row.apply(outside, giving(row, THREE)), 3, 12);
        int kept = row.suppose(row.suppose(row.assume(0, some), 1, some), 0, some);
        int first = row.apply(row.apply(kept, giving(row, ONE)), two);
        gives(row, "the label when the function came", first, 1, 9);
        Check.due("sound", true, row::isSound);
    }

    private static void reveals() {
        WitnessRow row = row();
        int some = row.bind('E', 1, row.less(X, Y));
        int shown = row.exhibit(row.fact(row.less(X, NEXT)), some, NEXT);
        // Of some y that x is less than: that is more than 0 by one of the variable 2.
        int after = row.bind('E', 2, row.less(Y, Z));
        int more = row.exhibit(row.fact(row.less(Y, row.plus(Y, ONE))), after, row.plus(Y, ONE));
        int any = row.bind('E', 3, row.equal(row.variable(3), row.variable(3)));
        int sum = row.plus(row.plus(Y, Y), Z);
        int last = row.exhibit(row.fact(row.equal(sum, sum)), any, sum);
        int two = row.reveal(shown, row.reveal(more, last, 0), 0);
        int all = row.generalize(two, 0);
        // y is x + 1, z is y + 1: 3 y + 1.
        runs(row, "y + y + z", all, 0, 4, 9);
        runs(row, "y + y + z", all, 9, 31, 9);
        int label = row.reveal(giving(row, THREE), row.part(row.both(last, row.assume(0, row.equal(Y, Y))), false), 0);
        gives(row, "y alone", label, 6, 8);
        Check.due("sound", true, row::isSound);
    }

    /** Of all x there is some y that is x + x, each told by the one ahead. */
    private static int doubling(WitnessRow row) {
        int isDouble = row.equal(Y, row.plus(X, X));
        int some = row.bind('E', 1, isDouble);
        int all = row.bind('A', 0, some);
        int atZero = row.put(some, 0, ZERO);
        int first = row.exhibit(row.fact(row.put(row.within(atZero, true), 1, ZERO)), atZero, ZERO);
        int after = row.put(some, 0, NEXT);
        int sum = row.plus(Y, TWO);
        int same = row.fact(row.equal(sum, sum));
        int moved = row.rewrite(row.assume(1, isDouble), same, row.equal(sum, row.plus(Z, TWO)), 2);
        int wanted = row.put(row.within(after, true), 1, sum);
        int sums = row.fact(row.equal(row.plus(row.plus(X, X), TWO), row.within(wanted, true)));
        int equation = row.rewrite(sums, moved, row.equal(sum, Z), 2);
        int shown = row.exhibit(equation, after, sum);
        int revealed = row.reveal(row.assume(0, some), shown, 1);
        int step = row.generalize(row.suppose(revealed, 0, some), 0);
        return row.induct(first, step, all);
    }

    private static void inductions() {
        WitnessRow row = row();
        int program = doubling(row);
        // The rule, two of the first proof, and for each number generalize, suppose, reveal, assume, exhibit,
        // two times rewrite, and fact.
        for (int input = 0; input <= 30; input++) {
            runs(row, "doubling", program, input, 2 * input, 3 + 8 * input);
        }
        gives(row, "doubling 3", row.specialize(program, THREE), 6, 4 + 8 * 3);
        int ninety = row.number(99);
        gives(row, "doubling 99", row.specialize(program, ninety), 198, 4 + 8 * 99);
        int tooMany = row.specialize(program, row.plus(ninety, ninety));
        Check.unsupported("doubling 198", () -> row.witness(tooMany));
        Check.due("steps of what is refused", 1001, row::steps);
        Check.due("sound", true, row::isSound);
        Check.due("steps are as they were", 1001, row::steps);
    }

    /** Steps of proofs of the same formula: one more, or two more than two of them. */
    private static int oneMore(WitnessRow row, int proof) {
        int equality = row.fact(row.equal(ZERO, ZERO));
        return row.rewrite(equality, proof, row.formulaOf(proof), 4);
    }

    private static int together(WitnessRow row, int proof, int other) {
        return row.part(row.both(proof, other), false);
    }

    private static void mostSteps() {
        WitnessRow row = row();
        int[] doubled = new int[9];
        doubled[0] = giving(row, THREE);
        for (int i = 1; i < 9; i++) {
            doubled[i] = together(row, doubled[i - 1], doubled[i - 1]);
        }
        gives(row, "510 steps", doubled[7], 3, 510);
        Check.unsupported("1022 steps", () -> row.witness(doubled[8]));
        Check.due("steps of 1022", 1001, row::steps);
        int eight = oneMore(row, oneMore(row, doubled[1]));
        gives(row, "8 steps", eight, 3, 8);
        int many = together(row, eight, doubled[3]);
        for (int i = 4; i < 8; i++) {
            many = together(row, many, doubled[i]);
        }
        int thousand = many;
        gives(row, "1000 steps", thousand, 3, 1000);
        int more = oneMore(row, thousand);
        Check.unsupported("1001 steps", () -> row.witness(more));
        Check.due("steps of 1001", 1001, row::steps);
        int all = row.generalize(thousand, 3);
        Check.unsupported("1001 steps, the last one within", () -> row.run(all, 4));
        Check.due("steps of the function", 1001, row::steps);
        gives(row, "1000 steps again", thousand, 3, 1000);
        Check.due("refused runs are not held against the row", true, row::isSound);
    }

    /** A proof whose rules are 100 one within the other, bodies within what applies them, or more by one each. */
    private static void deepest() {
        WitnessRow row = row();
        int giving = giving(row, TWO);
        int some = row.formulaOf(giving);
        int function = row.generalize(giving, 5);
        int all = row.formulaOf(function);
        int equality = row.fact(row.equal(ZERO, ZERO));
        int chain = row.specialize(row.assume(0, all), ZERO);
        for (int count = 0; count < 15; count++) {
            chain = row.rewrite(equality, chain, some, 4);
        }
        int longer = row.suppose(row.generalize(chain, 5), 0, all);
        for (int count = 0; count < 6; count++) {
            function = row.apply(longer, function);
        }
        int applied = row.specialize(function, ZERO);
        gives(row, "99 deep", applied, 2, 124);
        int hundred = row.rewrite(equality, applied, some, 4);
        gives(row, "100 deep", hundred, 2, 125);
        int over = row.rewrite(equality, hundred, some, 4);
        Check.unsupported("101 deep", () -> row.witness(over));
        Check.due("steps of 101 deep", 126, row::steps);
        int further = row.rewrite(equality, over, some, 4);
        Check.unsupported("102 deep", () -> row.witness(further));
        // What the innermost rule but one applies is as deep as that itself, and comes first.
        Check.due("steps of 102 deep", 125, row::steps);
        Check.due("it is not as deep by itself", 26, () -> row.depth(applied));
    }

    private static void greatNumbers() {
        WitnessRow row = row();
        int square = row.times(X, X);
        int fourth = row.times(square, square);
        int all = row.generalize(giving(row, fourth), 0);
        runs(row, "30 to the fourth", all, 30, 810000, 3);
        int twice = row.generalize(giving(row, row.plus(fourth, fourth)), 0);
        runs(row, "twice 26 to the fourth", twice, 26, 913952, 3);
        Check.unsupported("twice 27 to the fourth", () -> row.run(twice, 27));
        Check.due("refused ahead of the fact", 2, row::steps);
        // A part of the term is above 1000000, not the term: 0 times it.
        int nothing = row.generalize(giving(row, row.times(ZERO, row.plus(fourth, fourth))), 0);
        Check.unsupported("nothing of it", () -> row.run(nothing, 30));
        runs(row, "nothing of less", nothing, 26, 0, 3);
        int applied = row.generalize(row.specialize(all, row.plus(fourth, fourth)), 0);
        Check.unsupported("applied to what is too great", () -> row.run(applied, 30));
        Check.due("refused behind the function", 3, row::steps);
        int less = row.less(row.plus(fourth, fourth), ZERO);
        int decided = row.generalize(row.decide(row.join(row.equal(ZERO, ZERO), '|', less)), 0);
        chooses(row, "what is reckoned with all its terms", decided, 26, true, 2);
        Check.unsupported("one of its terms is too great", () -> row.choice(decided, 27));
        Check.due("refused at decide", 2, row::steps);
        long before = row.checksum();
        Check.unsupported("refused again", () -> row.choice(decided, 30));
        Check.due("nothing has changed", before, row::checksum);
        Check.due("sound", true, row::isSound);
    }

    private static void millions() {
        WitnessRow row = row();
        int ten = row.number(10);
        int thousand = row.times(row.times(ten, ten), ten);
        int million = row.times(thousand, thousand);
        gives(row, "a million", giving(row, million), 1000000, 2);
        // More than a million is refused, and no fact either: the proof of it is by what is assumed and supposed.
        int more = row.plus(million, ONE);
        Check.unsupported("no fact of more", () -> row.fact(row.equal(more, more)));
        int same = row.equal(Y, Y);
        int some = row.bind('E', 1, same);
        int all = row.generalize(row.fact(same), 1);
        int shown = row.exhibit(row.specialize(all, more), some, more);
        Check.unsupported("more than a million", () -> row.witness(shown));
        Check.due("refused at exhibit", 1, row::steps);
        int equal = row.equal(more, more);
        Check.unsupported("holds of more", () -> row.holds(equal, 0, 0));
        Check.due("holds of a million", true, () -> row.holds(row.equal(million, million), 0, 0));
        Check.due("sound, what is too great aside", true, row::isSound);
    }

    private static void holds() {
        WitnessRow row = row();
        int less = row.less(X, Y);
        int equal = row.equal(X, Y);
        due(row, less, 3, 4, true);
        due(row, less, 4, 4, false);
        due(row, less, 5, 4, false);
        due(row, equal, 4, 4, true);
        due(row, equal, 3, 4, false);
        int big = row.join(row.equal(X, ONE), '&', row.equal(Y, ONE));
        int or = row.join(row.equal(X, ONE), '|', row.equal(Y, ONE));
        int follows = row.join(row.equal(X, ONE), '>', row.equal(Y, ONE));
        for (int x = 0; x < 2; x++) {
            for (int y = 0; y < 2; y++) {
                due(row, big, x, y, x == 1 && y == 1);
                due(row, or, x, y, x == 1 || y == 1);
                due(row, follows, x, y, x == 0 || y == 1);
            }
        }
        int others = row.equal(row.plus(row.times(X, TWO), Z), row.plus(Y, row.variable(5)));
        due(row, others, 99, 99, false);
        due(row, others, 49, 98, true);
        for (int wrong : new int[] {-1, 100, Integer.MIN_VALUE, Integer.MAX_VALUE}) {
            Check.noArgument("holds for first " + wrong, () -> row.holds(less, wrong, 0));
            Check.noArgument("holds for second " + wrong, () -> row.holds(less, 0, wrong));
        }
        int bound = row.bind('A', 0, less);
        Check.noArgument("no number comes ahead of not plain", () -> row.holds(bound, 100, 0));
        Check.unsupported("holds of all", () -> row.holds(bound, 0, 0));
        Check.unsupported("holds of what has all in it", () -> row.holds(row.join(less, '|', bound), 0, 1));
        for (int wrong : NO_PROOF) {
            Check.noIndex("holds of " + wrong, () -> row.holds(wrong, 100, 100));
        }
        int cube = row.times(row.times(X, X), X);
        int great = row.join(equal, '|', row.less(row.plus(cube, cube), Y));
        due(row, great, 79, 79, true);
        Check.unsupported("a number above 1000000 comes, though it is true", () -> row.holds(great, 80, 80));
        Check.due("no run", 0, row::steps);
    }

    private static void due(WitnessRow row, int formula, int first, int second, boolean want) {
        Check.due("holds of " + formula + " for " + first + " and " + second, want,
                () -> row.holds(formula, first, second));
    }

    private static void search() {
        WitnessRow row = row();
        int square = row.times(Y, Y);
        int more = row.less(X, square);
        Check.due("the least square above 8", 3, () -> row.search(more, 8));
        Check.due("the least square above 9", 4, () -> row.search(more, 9));
        Check.due("the least square above 99", 10, () -> row.search(more, 99));
        int same = row.equal(X, Y);
        Check.due("0 is the first", 0, () -> row.search(same, 0));
        Check.due("99 is the last", 99, () -> row.search(same, 99));
        int next = row.equal(NEXT, Y);
        Check.due("99 behind 98", 99, () -> row.search(next, 98));
        Check.noElement("none behind 99", () -> row.search(next, 99));
        Check.due("always", 0, () -> row.search(row.equal(Z, ZERO), 5));
        Check.noElement("never", () -> row.search(row.equal(Z, ONE), 5));
        int bound = row.bind('E', 0, same);
        Check.unsupported("search of some", () -> row.search(bound, 0));
        for (int wrong : new int[] {-1, 100, Integer.MIN_VALUE, Integer.MAX_VALUE}) {
            Check.noArgument("search for " + wrong, () -> row.search(bound, wrong));
        }
        for (int wrong : NO_PROOF) {
            Check.noIndex("search of " + wrong, () -> row.search(wrong, 100));
        }
        int cube = row.times(square, Y);
        int found = row.join(same, '|', row.less(row.times(cube, TWO), ZERO));
        Check.due("found ahead of a number above 1000000", 79, () -> row.search(found, 79));
        Check.unsupported("a number above 1000000 on the way", () -> row.search(found, 80));
        int fifth = row.times(cube, row.times(square, X));
        Check.unsupported("a number above 1000000 before there is none", () -> row.search(row.less(fifth, ZERO), 1));
        Check.due("no run", 0, row::steps);
    }

    public static void main(String[] args) {
        simple();
        choosing();
        cases();
        given();
        functions();
        reveals();
        inductions();
        mostSteps();
        deepest();
        greatNumbers();
        millions();
        holds();
        search();
        Check.end();
    }
}
