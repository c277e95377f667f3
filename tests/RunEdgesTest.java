/**
 * Runs at their bounds: 1000 steps, rules 100 one within the other, numbers up to 1000000; what is evaluated and what
 * is not; what labels and variables have; and what one run leaves to the next call, which is its steps alone.
 */
public final class RunEdgesTest {
    private static final String REFUSED = "throws.UnsupportedOperationException";

    private final WitnessRow row = new WitnessRow();
    private final int x = row.variable(0);
    private final int y = row.variable(1);
    private final int zero = row.number(0);
    private final int one = row.number(1);
    private final int two = row.number(2);
    private final int isY = row.equal(y, y);
    private final int some = row.bind('E', 1, isY);
    private final int equality = row.fact(row.equal(zero, zero));

    /** A proof that some y is y, which gives a term: exhibit() of fact(). */
    private int giving(int term) {
        return row.exhibit(row.fact(row.equal(term, term)), some, term);
    }

    /** Evaluated one deeper than the proof itself. */
    private int deeper(int proof, int count) {
        int last = proof;
        for (int turn = 0; turn < count; turn++) {
            last = row.rewrite(equality, last, row.formulaOf(last), 4);
        }
        return last;
    }

    private int firstOf(int proof, int other) {
        return row.part(row.both(proof, other), false);
    }

    private void gives(String what, Object want, int proof, int steps) {
        Check.due("38 witness: " + what, want, () -> row.witness(proof));
        Check.due("40 steps: " + what, steps, row::steps);
    }

    private void runs(String what, Object want, int proof, int input, int steps) {
        Check.due("37 run for " + input + ": " + what, want, () -> row.run(proof, input));
        Check.due("40 steps for " + input + ": " + what, steps, row::steps);
    }

    private void chooses(String what, Object want, int proof, int input, int steps) {
        Check.due("39 choice for " + input + ": " + what, want, () -> row.choice(proof, input));
        Check.due("40 steps for " + input + ": " + what, steps, row::steps);
    }

    private void inputs() {
        Check.due("40 steps ahead of any run", 0, row::steps);
        int all = row.generalize(giving(x), 0);
        runs("x", 0, all, 0, 3);
        runs("x", 30, all, 30, 3);
        int least = row.generalize(row.decide(row.less(x, one)), 0);
        chooses("x < 1", true, least, 0, 2);
        chooses("x < 1", false, least, 1, 2);
        chooses("x < 1", false, least, 30, 2);
        int greatest = row.generalize(row.decide(row.less(row.number(29), x)), 0);
        chooses("29 < x", false, greatest, 29, 2);
        chooses("29 < x", true, greatest, 30, 2);
        int idle = row.generalize(giving(two), 5);
        runs("2, whatever it is", 2, idle, 30, 3);
        for (int wrong : new int[] {-1, 31, Integer.MIN_VALUE, Integer.MAX_VALUE}) {
            Check.noArgument("37 run for " + wrong, () -> row.run(all, wrong));
            Check.noArgument("39 choice for " + wrong, () -> row.choice(least, wrong));
        }
        Check.unsupported("37 run of what chooses", () -> row.run(least, 0));
        Check.unsupported("38 witness of what runs", () -> row.witness(all));
        Check.unsupported("39 choice of what runs", () -> row.choice(all, 0));
        Check.due("40 what was no run leaves the steps", 3, row::steps);
    }

    /** 1000 steps as a number, as a number of all, and as a choice; and one more. */
    private void mostSteps() {
        int[] doubled = new int[8];
        doubled[0] = giving(two);
        for (int i = 1; i < 8; i++) {
            doubled[i] = firstOf(doubled[i - 1], doubled[i - 1]);
        }
        // Steps: 2, 6, 14, 30, 62, 126, 254, 510; firstOf takes two more than both together.
        int many = firstOf(firstOf(firstOf(firstOf(doubled[7], doubled[6]), doubled[5]), doubled[4]), doubled[3]);
        gives("990 steps", 2, many, 990);
        int less = deeper(many, 9);
        gives("999 steps", 2, less, 999);
        int most = deeper(less, 1);
        gives("1000 steps", 2, most, 1000);
        gives("1001 steps", REFUSED, deeper(most, 1), 1001);
        runs("1000 steps", 2, row.generalize(less, 0), 30, 1000);
        runs("1001 steps", REFUSED, row.generalize(most, 0), 0, 1001);
        int choosing = deeper(row.either(many, isY, true), 8);
        chooses("1000 steps", true, row.generalize(choosing, 0), 3, 1000);
        chooses("1001 steps", REFUSED, row.generalize(deeper(choosing, 1), 0), 3, 1001);
        gives("1000 steps behind a run that was refused", 2, most, 1000);
    }

    /** A function of all that is applied 97 deep by what this returns; it has to tell some of all of the variable 5. */
    private int appliedDeep(int function) {
        int all = row.formulaOf(function);
        int chain = deeper(row.specialize(row.assume(0, all), one), 15);
        int longer = row.suppose(row.generalize(chain, 5), 0, all);
        int last = function;
        for (int turn = 0; turn < 6; turn++) {
            last = row.apply(longer, last);
        }
        return row.specialize(last, one);
    }

    private void deepest(String what, int function, int steps, boolean isHundred) {
        int applied = deeper(appliedDeep(function), isHundred ? 0 : 1);
        gives("100 deep: " + what, 1, applied, steps);
        Check.due("38 witness 101 deep: " + what, REFUSED, () -> row.witness(deeper(applied, 1)));
    }

    /** 121 steps lead to what is applied 97 deep: what comes within it may be three deeper. */
    private static void depths() {
        RunEdgesTest a = new RunEdgesTest();
        a.deepest("the body of generalize()", a.row.generalize(a.giving(a.one), 5), 125, false);
        RunEdgesTest b = new RunEdgesTest();
        b.deepest("the first proof of induct()", b.induction(b.giving(b.one), 0, 0, 0), 128, false);
        RunEdgesTest c = new RunEdgesTest();
        c.deepest("the second proof of induct()", c.induction(c.giving(c.one), 2, 0, 0), 129, true);
        RunEdgesTest d = new RunEdgesTest();
        d.deepest("what the second proof is applied to", d.induction(d.giving(d.one), 0, 2, 0), 129, true);
        RunEdgesTest e = new RunEdgesTest();
        e.deepest("what that is applied to", e.induction(e.giving(e.one), 0, 0, 2), 129, true);
    }

    /** Some of all of the variable 5, by going from it to itself; each part of the step so much deeper. */
    private int induction(int first, int second, int body, int inner) {
        int formula = row.formulaOf(first);
        int same = row.suppose(deeper(row.assume(1, formula), inner), 1, formula);
        int step = deeper(row.generalize(deeper(same, body), 5), second);
        return row.induct(first, step, row.bind('A', 5, formula));
    }

    /** What a run itself applies has its body as deep as the rule that gave it. */
    private void outermost() {
        int hundred = deeper(appliedDeep(row.generalize(giving(one), 5)), 1);
        gives("100 deep", 1, hundred, 125);
        runs("the body is 100 deep", 1, row.generalize(hundred, 3), 4, 126);
        int induction = row.induct(hundred, row.generalize(row.suppose(hundred, 1, some), 3), row.bind('A', 3, some));
        runs("the first proof is 100 deep", 1, induction, 0, 126);
        runs("the step too", 1, induction, 1, 126 + 127);
        gives("the first proof is 101 deep within what applies it", REFUSED, row.specialize(induction, zero), 127);
        int over = deeper(hundred, 1);
        runs("the body is 101 deep", REFUSED, row.generalize(over, 3), 4, 127);
        int refused = row.induct(over, row.generalize(row.suppose(over, 1, some), 3), row.bind('A', 3, some));
        runs("the first proof is 101 deep", REFUSED, refused, 0, 127);
    }

    private static int million(WitnessRow row) {
        int thousand = row.times(row.number(10), row.times(row.number(10), row.number(10)));
        return row.times(thousand, thousand);
    }

    /** A million is not above it, and one more is; so in a term that is applied, exhibited, decided or asked for. */
    private void greatest() {
        int million = million(row);
        int more = row.plus(million, one);
        int none = row.times(zero, more);
        int all = row.generalize(giving(x), 0);
        int ofAll = row.generalize(row.fact(row.equal(x, x)), 0);
        gives("a million, exhibited", 1000000, giving(million), 2);
        gives("a million, applied to", 1000000, row.specialize(all, million), 4);
        gives("one more, applied to", REFUSED, row.specialize(all, more), 2);
        gives("0 times one more, applied to", REFUSED, row.specialize(all, none), 2);
        gives("one more, exhibited", REFUSED, row.exhibit(row.specialize(ofAll, more), some, more), 1);
        gives("0 times one more, exhibited", REFUSED, row.exhibit(row.specialize(ofAll, none), some, none), 1);
        int next = row.plus(x, million);
        runs("x and a million", 1000000, row.generalize(giving(next), 0), 0, 3);
        runs("x and a million", REFUSED, row.generalize(row.exhibit(row.specialize(row.generalize(
                row.fact(isY), 1), next), some, next), 0), 1, 2);
        decided("x < a million", row.less(x, million), true, true);
        decided("x < x and a million", row.less(x, next), true, false);
        decided("x and a million < x", row.less(next, x), false, false);
        decided("0 = 0, or x and a million < x", row.join(row.equal(zero, zero), '|', row.less(next, x)), true, false);
        decided("0 = 1, and x and a million < x", row.join(row.equal(zero, one), '&', row.less(next, x)), false, false);
        decided("0 = 1, from which x < x and a million follows",
                row.join(row.equal(zero, one), '>', row.less(x, next)), true, false);
    }

    /** A plain formula that is reckoned for x = 0, and for 1 too or not. */
    private void decided(String what, int formula, boolean atZero, boolean isForOne) {
        int all = row.generalize(row.decide(formula), 0);
        chooses(what, atZero, all, 0, 2);
        chooses(what, isForOne ? "true" : REFUSED, all, 1, 2);
        Check.due("41 holds for 0: " + what, atZero, () -> row.holds(formula, 0, 99));
        Check.due("41 holds for 1: " + what, isForOne ? "true" : REFUSED, () -> row.holds(formula, 1, 99));
        Check.due("42 search for 0: " + what, atZero ? "0" : "throws.NoSuchElementException",
                () -> row.search(formula, 0));
        Check.due("42 search for 1: " + what, isForOne ? "0" : REFUSED, () -> row.search(formula, 1));
    }

    /** Products that go round in 32 bits are above 1000000 all the same. */
    private void wrapped() {
        int word = row.times(row.number(64), row.times(row.number(32), row.number(32)));
        int million = million(row);
        int ofAll = row.generalize(row.fact(isY), 1);
        int[] great = {row.times(word, word), row.times(million, row.plus(row.times(row.number(99), row.number(43)),
                row.number(38))), row.times(million, million)};
        for (int term : great) {
            gives("what goes round", REFUSED, row.exhibit(row.specialize(ofAll, term), some, term), 1);
            int none = row.equal(row.times(zero, term), zero);
            Check.unsupported("41 holds of what goes round", () -> row.holds(none, 0, 0));
            Check.unsupported("42 search of what goes round", () -> row.search(none, 0));
        }
        int square = row.times(row.times(x, x), y);
        int least = row.less(row.number(99), square);
        Check.due("42 search: 99 < 99 * 99 * y", 1, () -> row.search(least, 99));
        int cube = row.times(square, row.times(x, row.number(64)));
        int never = row.less(cube, zero);
        Check.unsupported("42 search: a number above 1000000 comes on the way", () -> row.search(never, 99));
        Check.noElement("42 search: it is 0 throughout", () -> row.search(never, 0));
        int late = row.equal(row.plus(row.times(row.times(y, y), row.number(99)), row.number(99)), zero);
        Check.noElement("42 search: 99 * 99 * 99 + 99 is not above it", () -> row.search(late, 0));
        int over = row.equal(row.times(row.times(y, y), row.plus(row.number(99), row.number(4))), one);
        Check.unsupported("42 search: 103 * 99 * 99 is, at last", () -> row.search(over, 0));
        int found = row.join(over, '|', row.equal(y, row.number(98)));
        Check.due("42 search: found one ahead of it", 98, () -> row.search(found, 0));
    }

    /** What is not asked for is not evaluated, and tells in no step. */
    private void unevaluated() {
        int cube = row.times(x, row.times(x, x));
        int great = row.times(cube, cube);
        int exact = row.bind('E', 1, row.equal(great, great));
        runs("fact() of a number above 1000000", 0,
                row.generalize(row.exhibit(row.fact(row.equal(great, great)), exact, zero), 0), 30, 3);
        int refused = row.specialize(row.generalize(row.fact(row.equal(x, x)), 0), row.plus(million(row), one));
        int giving = giving(two);
        int formula = row.formulaOf(refused);
        gives("rewrite() by what would be refused", 2, row.rewrite(refused, giving, some, 4), 3);
        gives("both() of it", REFUSED, row.part(row.both(giving, refused), false), 6);
        gives("suppose() of it", 2, firstOf(giving, row.suppose(refused, 0, isY)), 5);
        gives("generalize() of it", 2, firstOf(giving, row.generalize(refused, 4)), 5);
        int step = row.generalize(row.suppose(refused, 0, formula), 4);
        gives("induct() of it", 2, firstOf(giving, row.induct(refused, step, row.bind('A', 4, formula))), 5);
        int falsehood = row.equal(zero, one);
        int absurd = row.suppose(row.absurd(row.assume(0, falsehood), some), 0, falsehood);
        gives("absurd() within a function", 2, firstOf(giving, absurd), 5);
        int first = row.either(row.fact(row.equal(one, one)), falsehood, true);
        int second = row.either(row.fact(row.equal(one, one)), falsehood, false);
        gives("cases() of the second one, which is refused", 2,
                row.cases(first, giving, firstOf(giving, refused), 3), 5);
        gives("cases() of the first one, which is refused", 2,
                row.cases(second, firstOf(giving, refused), giving, 3), 5);
        int apply = row.apply(row.suppose(giving, 5, formula), refused);
        gives("apply() to what is refused, and is not needed", REFUSED, apply, 4);
    }

    /** induct() evaluates its first proof once for each time that it is applied, and the second one once a number. */
    private void inductions() {
        int induction = induction(giving(two), 1, 1, 1);
        runs("of nothing", 2, induction, 0, 3);
        runs("of 1", 2, induction, 1, 3 + 6);
        runs("of 30", 2, induction, 30, 3 + 30 * 6);
        int most = row.specialize(induction, row.number(99));
        gives("of 99", 2, most, 4 + 99 * 6);
        int over = row.specialize(induction, row.plus(row.number(99), row.number(67)));
        gives("of 166", 2, over, 1000);
        gives("of 167", REFUSED, row.specialize(induction, row.plus(row.number(99), row.number(68))), 1001);
        gives("of a million", REFUSED, row.specialize(induction, million(row)), 1001);
        int twice = firstOf(row.specialize(induction, zero), row.specialize(induction, one));
        gives("of nothing, and of 1", 2, twice, 2 + 4 + 10);
    }

    /** Each label has what it is given by suppose(), cases() and reveal(). */
    private static void labels() {
        for (int l = 0; l < 6; l++) {
            RunEdgesTest t = new RunEdgesTest();
            int assumed = t.row.assume(l, t.some);
            String label = " with the label " + l;
            t.gives("suppose()" + label, 2, t.row.apply(t.row.suppose(assumed, l, t.some), t.giving(t.two)), 5);
            int first = t.row.either(t.giving(t.one), t.isY, true);
            t.gives("cases()" + label, 1, t.row.cases(first, assumed, t.giving(t.zero), l), 5);
            int second = t.row.either(t.giving(t.one), t.isY, false);
            t.gives("cases()" + label + ", second", 1, t.row.cases(second, t.giving(t.zero), assumed, l), 5);
            int someSome = t.row.bind('E', 2, t.some);
            int shown = t.row.exhibit(t.giving(t.one), someSome, t.two);
            t.gives("reveal()" + label, 1, t.row.reveal(shown, assumed, l), 5);
            t.labelsAtOnce(l);
        }
    }

    /** Six functions one within the other, each of another label, applied to 3 to 8. */
    private void labelsAtOnce(int wanted) {
        int proof = row.assume(wanted, some);
        for (int label = 0; label < 6; label++) {
            proof = row.suppose(proof, label, some);
        }
        for (int label = 5; label >= 0; label--) {
            proof = row.apply(proof, giving(row.number(3 + label)));
        }
        gives("all labels, of which it is " + wanted, 3 + wanted, proof, 25);
    }

    /** Each variable has what it is applied to, by generalize() or reveal(), and 0 outside. */
    private static void variables() {
        for (int v = 0; v < 6; v++) {
            RunEdgesTest t = new RunEdgesTest();
            int term = t.row.variable(v);
            int inside = t.giving(term);
            int applied = t.row.specialize(t.row.generalize(inside, v), t.two);
            String variable = "the variable " + v;
            t.gives(variable + " within", 2, applied, 4);
            t.gives(variable + " outside", 0, t.row.part(t.row.both(inside, applied), false), 8);
            t.gives(variable + " outside, and later", 0, t.row.part(t.row.both(applied, inside), true), 8);
            int named = t.row.exhibit(t.giving(t.one), t.row.bind('E', v, t.some), t.two);
            t.gives(variable + " by reveal()", 2, t.row.reveal(named, inside, 3), 6);
            t.gives(variable + " behind reveal()", 0,
                    t.row.part(t.row.both(t.row.reveal(named, inside, 3), inside), true), 10);
            t.runs(variable + " of a run", 17, t.row.generalize(inside, v), 17, 3);
            t.gives(variable + " behind the run", 0, inside, 2);
        }
        new RunEdgesTest().variablesAtOnce();
    }

    private void variablesAtOnce() {
        int sum = zero;
        for (int v = 5; v >= 0; v--) {
            sum = row.plus(row.times(sum, row.number(7)), row.variable(v));
        }
        int proof = giving(sum);
        int want = 0;
        for (int v = 0; v < 6; v++) {
            proof = row.specialize(row.generalize(proof, v), row.number(6 - v));
        }
        for (int v = 5; v >= 0; v--) {
            want = 7 * want + 6 - v;
        }
        gives("all variables", want, proof, 2 + 12);
    }

    /** What decide() gave is true of what the variables were then, where it is looked into too. */
    private void decidedElsewhere() {
        int isOne = row.equal(x, one);
        int either = row.join(isOne, '|', row.less(x, row.number(9)));
        int all = row.generalize(row.decide(either), 0);
        for (int number = 0; number < 3; number++) {
            int decided = row.specialize(all, row.number(number));
            int there = row.within(row.formulaOf(decided), false);
            int looked = row.cases(row.assume(0, there), giving(one), giving(two), 1);
            // Ahead of it x is reckoned as it is there, 4.
            int between = row.part(row.both(giving(x), looked), true);
            int chosen = row.cases(decided, between, giving(zero), 0);
            int outside = row.specialize(row.generalize(chosen, 0), row.number(4));
            gives("decided for " + number + ", looked into for 4", number == 1 ? 1 : 2, outside, 14);
        }
    }

    /** A call that reckons leaves no variable and no term for the next one. */
    private void nothingIsLeft() {
        int z = row.variable(2);
        int last = row.variable(5);
        int isZero = row.join(row.equal(z, zero), '&', row.equal(last, zero));
        int both = row.generalize(giving(row.plus(z, last)), 2);
        int all = row.generalize(row.specialize(row.generalize(giving(row.plus(z, last)), 2), two), 5);
        runs("z of all", 9, both, 9, 3);
        runs("z and the last variable", 11, all, 9, 5);
        Check.due("41 the other variables are 0 behind a run", true, () -> row.holds(isZero, 3, 4));
        Check.due("42 the other variables are 0 behind a run, too", 0, () -> row.search(isZero, 3));
        int cube = row.times(x, row.times(x, x));
        int great = row.equal(row.times(cube, cube), y);
        int xy = row.bind('E', 1, isY);
        int shown = row.exhibit(row.fact(row.equal(row.plus(x, y), row.plus(x, y))), xy, row.plus(x, y));
        Check.unsupported("41 a number above 1000000", () -> row.holds(great, 99, 98));
        gives("x + y behind what was refused", 0, shown, 2);
        Check.due("41 x is 99", true, () -> row.holds(row.equal(x, row.number(99)), 99, 0));
        gives("x + y behind holds()", 0, shown, 2);
        Check.unsupported("42 a number above 1000000", () -> row.search(great, 99));
        gives("x + y behind search()", 0, shown, 2);
        Check.due("41 neither is left", true, () -> row.holds(row.equal(row.plus(x, y), zero), 0, 0));
        // The last number that is reckoned is of z = 5, while z is 0 for the proof itself.
        int next = row.plus(z, one);
        int exact = row.exhibit(row.fact(row.equal(next, next)), row.bind('E', 1, row.equal(y, next)), next);
        int later = row.specialize(row.generalize(exact, 2), row.number(5));
        gives("z + 1", 1, firstOf(exact, later), 8);
        Check.due("46 z is 0 for it", true, row::isSound);
        Check.due("40 isSound() is no run", 8, row::steps);
    }

    /** 512 calls of an object, all but the first ones runs of many steps; none is refused for those ahead. */
    private static void calls() {
        RunEdgesTest t = new RunEdgesTest();
        int induction = t.induction(t.giving(t.two), 1, 1, 1);
        // More than have been told so far; then two, and four, for each turn.
        int told = 60;
        int term = t.row.number(99);
        int most = t.row.specialize(induction, term);
        for (int call = told; call < 512; call += 2) {
            int input = call % 31;
            t.runs("the call " + call, 2, induction, input, 3 + 6 * input);
        }
        RunEdgesTest u = new RunEdgesTest();
        int large = u.row.specialize(u.induction(u.giving(u.two), 1, 1, 1), u.row.number(99));
        for (int call = told; call < 512; call += 4) {
            u.gives("the call " + call, 2, large, 4 + 99 * 6);
            Check.due("46 isSound, the call " + call, true, u.row::isSound);
            u.row.holds(u.isY, call % 100, call % 99);
        }
        Check.due("the last call", 2, () -> t.row.witness(most));
    }

    public static void main(String[] args) {
        new RunEdgesTest().inputs();
        new RunEdgesTest().mostSteps();
        depths();
        new RunEdgesTest().outermost();
        new RunEdgesTest().greatest();
        new RunEdgesTest().wrapped();
        new RunEdgesTest().unevaluated();
        new RunEdgesTest().inductions();
        labels();
        variables();
        new RunEdgesTest().decidedElsewhere();
        new RunEdgesTest().nothingIsLeft();
        calls();
        Check.end();
    }
}
