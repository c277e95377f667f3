/** Promises 15 to 30. */
public final class RulesTest {
    private static final int[] NO_LABEL = {-1, 6, Integer.MIN_VALUE, Integer.MAX_VALUE};
    private static final int[] NO_PROOF = {-1, 60, Integer.MIN_VALUE, Integer.MAX_VALUE};

    /** Terms: x, y, 0, 1, 2, x + 1. Formulas: 0: x = y, 1: x < y, 2: 0 = 1. */
    private static WitnessRow row() {
        WitnessRow row = new WitnessRow();
        row.variable(0);
        row.variable(1);
        row.number(0);
        row.number(1);
        row.number(2);
        row.plus(0, 3);
        row.equal(0, 1);
        row.less(0, 1);
        row.equal(2, 3);
        return row;
    }

    private static final int X = 0;
    private static final int Y = 1;
    private static final int ZERO = 2;
    private static final int ONE = 3;
    private static final int TWO = 4;
    private static final int NEXT = 5;
    private static final int EQUAL = 0;
    private static final int LESS = 1;
    private static final int FALSE = 2;

    /** Looks at a proof: its formula and its open labels. */
    private static void proof(WitnessRow row, String what, int proof, int formula, int open) {
        Check.due(what + " proves", formula, () -> row.formulaOf(proof));
        Check.due(what + " has open", open, () -> row.openLabels(proof));
    }

    /** A row with 60 proofs, all of x = y by the label 0. */
    private static WitnessRow full() {
        WitnessRow row = row();
        for (int count = 0; count < 60; count++) {
            row.assume(0, EQUAL);
        }
        return row;
    }

    /** Fills a row's formulas up to 60. */
    private static void fillFormulas(WitnessRow row) {
        String answer = "";
        int last = FALSE;
        for (int count = 0; count < 60 && !answer.startsWith("throws"); count++) {
            int body = last;
            answer = Check.answerOf(() -> row.bind('A', 5, body));
            last = answer.startsWith("throws") ? last : Integer.parseInt(answer);
        }
    }

    /** A formula of 99 parts. */
    private static int longFormula(WitnessRow row) {
        int f = EQUAL;
        for (int count = 0; count < 24; count++) {
            f = row.join(f, '&', EQUAL);
        }
        return f;
    }

    private static void assume() {
        WitnessRow row = row();
        Check.due("assume", 0, () -> row.assume(5, LESS));
        proof(row, "what is assumed", 0, LESS, 32);
        Check.due("assume again, which is another proof", 1, () -> row.assume(5, LESS));
        Check.due("assume by 0", 2, () -> row.assume(0, LESS));
        proof(row, "what is assumed by 0", 2, LESS, 1);
        for (int wrong : NO_LABEL) {
            Check.noArgument("assume by " + wrong, () -> row.assume(wrong, LESS));
        }
        for (int wrong : NO_PROOF) {
            Check.noIndex("assume the formula " + wrong, () -> row.assume(9, wrong));
        }
        Check.noRoom("assume in a full row", () -> full().assume(0, EQUAL));
        Check.noArgument("assume by 6 in a full row", () -> full().assume(6, EQUAL));
    }

    private static void fact() {
        WitnessRow row = row();
        int sum = row.plus(X, Y);
        Check.due("x + y = y + x", 0, () -> row.fact(row.equal(sum, row.plus(Y, X))));
        proof(row, "the fact", 0, 3, 0);
        Check.due("x < x + 1", 1, () -> row.fact(row.less(X, NEXT)));
        Check.due("0 < 1", 2, () -> row.fact(row.less(ZERO, ONE)));
        Check.due("x < (x + y) + 2", 3, () -> row.fact(row.less(X, row.plus(sum, TWO))));
        Check.due("x * x < x * x + (x + 1)", 4,
                () -> row.fact(row.less(row.times(X, X), row.plus(row.times(X, X), NEXT))));
        Check.unsupported("x = y", () -> row.fact(EQUAL));
        Check.unsupported("0 = 1", () -> row.fact(FALSE));
        Check.unsupported("x < y", () -> row.fact(LESS));
        Check.unsupported("x < x", () -> row.fact(row.less(X, X)));
        Check.unsupported("x < x + y", () -> row.fact(row.less(X, sum)));
        Check.unsupported("x + 1 < x", () -> row.fact(row.less(NEXT, X)));
        Check.unsupported("x + 1 < y + 2", () -> row.fact(row.less(NEXT, row.plus(Y, TWO))));
        Check.unsupported("x * 2 < x + 1", () -> row.fact(row.less(row.times(X, TWO), NEXT)));
        Check.unsupported("x + 1 = x + 1 and itself", () -> row.fact(row.join(3, '&', 3)));
        Check.unsupported("all of what is a fact", () -> row.fact(row.bind('A', 0, 3)));
        for (int wrong : NO_PROOF) {
            Check.noIndex("the fact " + wrong, () -> row.fact(wrong));
        }
        WitnessRow full = full();
        Check.noRoom("a fact in a full row", () -> full.fact(full.equal(X, X)));
        Check.unsupported("no fact in a full row", () -> full.fact(EQUAL));
    }

    private static void both() {
        WitnessRow row = row();
        int first = row.assume(1, EQUAL);
        int second = row.assume(3, LESS);
        int other = row.assume(1, LESS);
        Check.due("both", 3, () -> row.both(first, second));
        proof(row, "both", 3, 3, 2 + 8);
        looks(row, 3, '&', EQUAL, LESS);
        Check.due("both of the same", 4, () -> row.both(first, first));
        proof(row, "both of the same", 4, 4, 2);
        Check.unsupported("labels do not agree", () -> row.both(first, other));
        Check.unsupported("labels do not agree in what is made", () -> row.both(other, 3));
        for (int wrong : NO_PROOF) {
            Check.noIndex("both of " + wrong, () -> row.both(wrong, first));
            Check.noIndex("both with " + wrong, () -> row.both(first, wrong));
        }
        int whole = row.assume(2, longFormula(row));
        Check.unsupported("both is too long", () -> row.both(whole, first));
        noRoom(row(), "both", w -> w.both(0, 0), w -> w.both(1, 0));
        WitnessRow full = full();
        Check.noRoom("both in a full row", () -> full.both(0, 0));
    }

    private interface Rule {
        int on(WitnessRow row);
    }

    /** A rule that would tell a formula in a row without room for it, and what does not fit there. */
    private static void noRoom(WitnessRow row, String what, Rule rule, Rule wrong) {
        row.assume(0, EQUAL);
        row.assume(0, LESS);
        fillFormulas(row);
        long before = row.checksum();
        Check.noRoom(what + " without room for formulas", () -> rule.on(row));
        if (wrong != null) {
            Check.unsupported(what + " that does not fit, without room", () -> wrong.on(row));
        }
        Check.due(what + " has changed nothing", before, row::checksum);
    }

    private static void looks(WitnessRow row, int formula, char kind, int first, int second) {
        Check.due("kindOf " + formula, kind, () -> row.kindOf(formula));
        Check.due("the first within " + formula, first, () -> row.within(formula, false));
        Check.due("the second within " + formula, second, () -> row.within(formula, true));
    }

    private static void part() {
        WitnessRow row = row();
        int both = row.both(row.assume(0, EQUAL), row.assume(1, LESS));
        Check.due("the first part", 3, () -> row.part(both, false));
        proof(row, "the first part", 3, EQUAL, 3);
        Check.due("the second part", 4, () -> row.part(both, true));
        proof(row, "the second part", 4, LESS, 3);
        Check.unsupported("part of no both", () -> row.part(0, false));
        int either = row.either(0, LESS, true);
        Check.unsupported("part of one or the other", () -> row.part(either, true));
        for (int wrong : NO_PROOF) {
            Check.noIndex("part of " + wrong, () -> row.part(wrong, false));
        }
        WitnessRow full = row();
        int pair = full.assume(0, full.join(EQUAL, '&', LESS));
        for (int count = 1; count < 60; count++) {
            full.assume(0, EQUAL);
        }
        Check.noRoom("part in a full row", () -> full.part(pair, true));
        Check.unsupported("part of no both in a full row", () -> full.part(1, true));
    }

    private static void either() {
        WitnessRow row = row();
        int proof = row.assume(2, EQUAL);
        Check.due("either first", 1, () -> row.either(proof, LESS, true));
        proof(row, "either first", 1, 3, 4);
        looks(row, 3, '|', EQUAL, LESS);
        Check.due("either second", 2, () -> row.either(proof, LESS, false));
        proof(row, "either second", 2, 4, 4);
        looks(row, 4, '|', LESS, EQUAL);
        for (int wrong : NO_PROOF) {
            Check.noIndex("either of " + wrong, () -> row.either(wrong, LESS, true));
            Check.noIndex("either with " + wrong, () -> row.either(proof, wrong, true));
        }
        int whole = longFormula(row);
        Check.unsupported("either is too long", () -> row.either(proof, whole, true));
        noRoom(row(), "either", w -> w.either(0, LESS, true), null);
        Check.noRoom("either in a full row", () -> full().either(0, LESS, true));
    }

    private static void cases() {
        WitnessRow row = row();
        int third = row.equal(X, X);
        int either = row.assume(0, row.join(EQUAL, '|', LESS));
        int first = row.both(row.assume(1, EQUAL), row.assume(2, third));
        int shown = row.part(first, true);
        int second = row.part(row.both(row.assume(1, LESS), row.assume(3, third)), true);
        int plain = row.assume(4, third);
        int told = second + 2;
        Check.due("cases", told, () -> row.cases(either, shown, second, 1));
        proof(row, "cases", told, third, 1 + 4 + 8);
        Check.due("the label of cases stays what it was", 4, () -> row.labelOf(told, 0));
        Check.due("cases without the label", told + 1, () -> row.cases(either, plain, plain, 0));
        proof(row, "cases without the label", told + 1, third, 1 + 16);
        Check.unsupported("no cases", () -> row.cases(shown, shown, second, 1));
        Check.unsupported("not of the same", () -> row.cases(either, shown, first, 5));
        Check.unsupported("the first has another one", () -> row.cases(either, second, second, 1));
        Check.unsupported("the second has another one", () -> row.cases(either, shown, shown, 1));
        Check.unsupported("labels do not agree", () -> row.cases(either, shown, second, 2));
        // The label may be open with any formula in the proof of one or the other, and stays open.
        int open = row.assume(1, row.join(EQUAL, '|', LESS));
        int told2 = open + 1;
        Check.due("cases of its own label", told2, () -> row.cases(open, shown, second, 1));
        proof(row, "cases of its own label", told2, third, 2 + 4 + 8);
        Check.due("its label", 4, () -> row.labelOf(told2, 1));
        int clash = row.assume(2, row.join(EQUAL, '|', LESS));
        Check.unsupported("a label of the first does not agree", () -> row.cases(clash, shown, second, 1));
        int clash3 = row.assume(3, row.join(EQUAL, '|', LESS));
        Check.unsupported("a label of the second does not agree", () -> row.cases(clash3, shown, second, 1));
        for (int wrong : NO_PROOF) {
            Check.noIndex("cases of " + wrong, () -> row.cases(wrong, shown, second, 9));
            Check.noIndex("cases first by " + wrong, () -> row.cases(either, wrong, second, 9));
            Check.noIndex("cases second by " + wrong, () -> row.cases(either, shown, wrong, 9));
        }
        for (int wrong : NO_LABEL) {
            Check.noArgument("cases by the label " + wrong, () -> row.cases(0, 0, 0, wrong));
        }
        while (row.assume(0, EQUAL) < 59) {
            continue;
        }
        Check.noRoom("cases in a full row", () -> row.cases(either, shown, second, 1));
        Check.unsupported("no cases in a full row", () -> row.cases(shown, shown, second, 1));
    }

    private static void suppose() {
        WitnessRow row = row();
        int both = row.both(row.assume(0, EQUAL), row.assume(1, LESS));
        int formula = row.formulaOf(both);
        Check.due("suppose", 3, () -> row.suppose(both, 1, LESS));
        proof(row, "suppose", 3, formula + 1, 1);
        looks(row, formula + 1, '>', LESS, formula);
        Check.due("suppose once more", 4, () -> row.suppose(3, 0, EQUAL));
        proof(row, "suppose once more", 4, formula + 2, 0);
        Check.due("suppose what is not open", 5, () -> row.suppose(both, 5, FALSE));
        proof(row, "suppose what is not open", 5, formula + 3, 3);
        Check.unsupported("the label has another one", () -> row.suppose(both, 1, EQUAL));
        for (int wrong : NO_PROOF) {
            Check.noIndex("suppose of " + wrong, () -> row.suppose(wrong, 9, LESS));
            Check.noIndex("suppose the formula " + wrong, () -> row.suppose(both, 9, wrong));
        }
        for (int wrong : NO_LABEL) {
            Check.noArgument("suppose by the label " + wrong, () -> row.suppose(both, wrong, EQUAL));
        }
        int whole = longFormula(row);
        Check.unsupported("suppose is too long", () -> row.suppose(both, 5, whole));
        noRoom(row(), "suppose", w -> w.suppose(0, 0, EQUAL), w -> w.suppose(0, 0, LESS));
        Check.noRoom("suppose in a full row", () -> full().suppose(0, 0, EQUAL));
        Check.unsupported("suppose another one in a full row", () -> full().suppose(0, 0, LESS));
    }

    private static void apply() {
        WitnessRow row = row();
        int follows = row.assume(0, row.join(EQUAL, '>', LESS));
        int from = row.assume(1, EQUAL);
        int other = row.assume(1, LESS);
        int clash = row.assume(0, EQUAL);
        Check.due("apply", 4, () -> row.apply(follows, from));
        proof(row, "apply", 4, LESS, 3);
        Check.unsupported("apply to another one", () -> row.apply(follows, other));
        Check.unsupported("apply to itself", () -> row.apply(follows, follows));
        Check.unsupported("apply what is no function", () -> row.apply(from, from));
        Check.unsupported("apply what labels do not agree in", () -> row.apply(follows, clash));
        int all = row.assume(2, row.bind('A', 0, EQUAL));
        Check.unsupported("apply all", () -> row.apply(all, from));
        for (int wrong : NO_PROOF) {
            Check.noIndex("apply " + wrong, () -> row.apply(wrong, from));
            Check.noIndex("apply to " + wrong, () -> row.apply(follows, wrong));
        }
        while (row.assume(5, EQUAL) < 59) {
            continue;
        }
        Check.noRoom("apply in a full row", () -> row.apply(follows, from));
        Check.unsupported("apply to another one in a full row", () -> row.apply(follows, other));
    }

    private static void generalize() {
        WitnessRow row = row();
        int fact = row.fact(row.less(X, NEXT));
        int assumed = row.assume(3, LESS);
        int bound = row.both(fact, row.assume(2, row.bind('E', 0, LESS)));
        int formula = row.formulaOf(bound);
        Check.due("generalize", 4, () -> row.generalize(bound, 0));
        proof(row, "generalize", 4, formula + 1, 4);
        looks(row, formula + 1, 'A', 0, formula);
        Check.due("generalize what is not there", 5, () -> row.generalize(fact, 5));
        Check.unsupported("x is free in a label", () -> row.generalize(assumed, 0));
        Check.unsupported("y is free in a label", () -> row.generalize(bound, 1));
        int mixed = row.both(row.assume(0, row.equal(TWO, TWO)), assumed);
        Check.unsupported("x is free in one of the labels", () -> row.generalize(mixed, 0));
        Check.due("a variable free in none", mixed + 1, () -> row.generalize(mixed, 2));
        for (int wrong : NO_PROOF) {
            Check.noIndex("generalize " + wrong, () -> row.generalize(wrong, 9));
        }
        for (int wrong : NO_LABEL) {
            Check.noArgument("generalize the variable " + wrong, () -> row.generalize(assumed, wrong));
        }
        int whole = row.assume(5, row.bind('A', 3, longFormula(row)));
        Check.unsupported("generalize is too long", () -> row.generalize(whole, 3));
        noRoom(row(), "generalize", w -> w.generalize(0, 4), w -> w.generalize(0, 0));
        Check.noRoom("generalize in a full row", () -> full().generalize(0, 4));
        Check.unsupported("no such one in a full row", () -> full().generalize(0, 0));
    }

    private static void specialize() {
        WitnessRow row = row();
        int all = row.assume(1, row.bind('A', 0, row.bind('E', 1, LESS)));
        int formulas = 5;
        Check.due("specialize", 1, () -> row.specialize(all, TWO));
        proof(row, "specialize", 1, formulas + 1, 2);
        looks(row, formulas + 1, 'E', 1, formulas);
        looks(row, formulas, '<', TWO, Y);
        Check.due("specialize to itself", 2, () -> row.specialize(all, X));
        proof(row, "specialize to itself", 2, 3, 2);
        Check.unsupported("y would be bound", () -> row.specialize(all, Y));
        Check.unsupported("specialize some", () -> row.specialize(1, TWO));
        Check.unsupported("specialize what is plain", () -> row.specialize(row.assume(0, LESS), TWO));
        for (int wrong : NO_PROOF) {
            Check.noIndex("specialize " + wrong, () -> row.specialize(wrong, TWO));
            Check.noIndex("specialize to " + wrong, () -> row.specialize(all, wrong));
        }
        int whole = row.assume(0, row.bind('A', 0, longFormula(row)));
        Check.unsupported("specialize is too long", () -> row.specialize(whole, NEXT));
        specializeWithoutRoom();
    }

    private static void specializeWithoutRoom() {
        WitnessRow row = row();
        int all = row.assume(1, row.bind('A', 0, row.join(LESS, '&', row.bind('E', 1, LESS))));
        fillFormulas(row);
        long before = row.checksum();
        Check.noRoom("specialize without room for formulas", () -> row.specialize(all, TWO));
        Check.unsupported("y would be bound, without room", () -> row.specialize(all, Y));
        Check.due("specialize has changed nothing", before, row::checksum);
        WitnessRow terms = row();
        int sum = terms.assume(1, terms.bind('A', 0, terms.equal(NEXT, terms.plus(NEXT, X))));
        for (int value = 3; value < 56; value++) {
            terms.number(value);
        }
        // 60 terms: 2 + 1 would be the next one.
        long ahead = terms.checksum();
        Check.noRoom("specialize without room for terms", () -> terms.specialize(sum, TWO));
        Check.due("specialize has told nothing", ahead, terms::checksum);
        WitnessRow full = row();
        int one = full.assume(0, full.bind('A', 0, LESS));
        while (full.assume(0, LESS) < 59) {
            continue;
        }
        long last = full.checksum();
        Check.noRoom("specialize in a full row", () -> full.specialize(one, TWO));
        Check.unsupported("what is not of all in a full row", () -> full.specialize(1, TWO));
        Check.due("a full row is as it was", last, full::checksum);
    }

    private static void exhibit() {
        WitnessRow row = row();
        int some = row.bind('E', 1, LESS);
        int fact = row.fact(row.less(X, NEXT));
        Check.due("exhibit", 1, () -> row.exhibit(fact, some, NEXT));
        proof(row, "exhibit", 1, some, 0);
        Check.unsupported("exhibit another term", () -> row.exhibit(fact, some, TWO));
        long before = row.checksum();
        Check.unsupported("exhibit what is not told", () -> row.exhibit(fact, some, row.plus(ONE, ONE)));
        Check.due("nothing is told for it but the term", before + 31, row::checksum);
        Check.unsupported("exhibit no some", () -> row.exhibit(fact, row.bind('A', 1, LESS), NEXT));
        Check.unsupported("exhibit what is plain", () -> row.exhibit(fact, LESS, NEXT));
        int assumed = row.assume(4, LESS);
        Check.due("exhibit itself", 3, () -> row.exhibit(assumed, some, Y));
        proof(row, "exhibit itself", 3, some, 16);
        int idle = row.bind('E', 5, LESS);
        Check.due("exhibit any term", 4, () -> row.exhibit(assumed, idle, TWO));
        int inner = row.bind('E', 0, row.bind('A', 1, LESS));
        int caught = row.assume(5, row.bind('A', 1, row.less(Y, Y)));
        Check.unsupported("y would be bound", () -> row.exhibit(caught, inner, Y));
        for (int wrong : NO_PROOF) {
            Check.noIndex("exhibit by " + wrong, () -> row.exhibit(wrong, some, NEXT));
            Check.noIndex("exhibit the formula " + wrong, () -> row.exhibit(fact, wrong, NEXT));
            Check.noIndex("exhibit the term " + wrong, () -> row.exhibit(fact, some, wrong));
        }
        fillFormulas(row);
        Check.due("exhibit without room for formulas", 6, () -> row.exhibit(fact, some, NEXT));
        while (row.assume(5, EQUAL) < 59) {
            continue;
        }
        Check.noRoom("exhibit in a full row", () -> row.exhibit(fact, some, NEXT));
        Check.unsupported("exhibit another term in a full row", () -> row.exhibit(fact, some, TWO));
    }

    private static void reveal() {
        WitnessRow row = row();
        int some = row.bind('E', 1, LESS);
        int assumed = row.assume(0, some);
        int other = row.assume(1, LESS);
        int shown = row.exhibit(other, some, Y);
        Check.due("reveal", 3, () -> row.reveal(assumed, shown, 1));
        proof(row, "reveal", 3, some, 1);
        Check.unsupported("y is free in the formula", () -> row.reveal(assumed, other, 1));
        Check.unsupported("the label has another one", () -> row.reveal(assumed, assumed, 0));
        Check.unsupported("reveal what is plain", () -> row.reveal(other, shown, 1));
        Check.unsupported("y is free in an open label", () -> row.reveal(assumed, shown, 2));
        int pair = row.part(row.both(shown, row.assume(3, EQUAL)), false);
        Check.unsupported("y is free in another open label", () -> row.reveal(assumed, pair, 1));
        int all = row.assume(2, row.bind('A', 1, LESS));
        Check.unsupported("reveal all", () -> row.reveal(all, shown, 1));
        int apart = row.part(row.both(shown, row.assume(3, row.equal(X, X))), false);
        int told = apart + 1;
        Check.due("reveal with another label", told, () -> row.reveal(assumed, apart, 1));
        proof(row, "reveal with another label", told, some, 1 + 8);
        int same = row.assume(1, some);
        Check.due("reveal of its own label", told + 2, () -> row.reveal(same, shown, 1));
        proof(row, "reveal of its own label", told + 2, some, 2);
        int clash = row.assume(3, some);
        Check.unsupported("labels do not agree", () -> row.reveal(clash, apart, 1));
        // y may be free in a label of the first proof.
        int outside = row.part(row.both(assumed, row.assume(4, EQUAL)), false);
        Check.due("y is free outside", outside + 1, () -> row.reveal(outside, shown, 1));
        for (int wrong : NO_PROOF) {
            Check.noIndex("reveal " + wrong, () -> row.reveal(wrong, shown, 9));
            Check.noIndex("reveal for " + wrong, () -> row.reveal(assumed, wrong, 9));
        }
        for (int wrong : NO_LABEL) {
            Check.noArgument("reveal by the label " + wrong, () -> row.reveal(assumed, other, wrong));
        }
        while (row.assume(5, EQUAL) < 59) {
            continue;
        }
        Check.noRoom("reveal in a full row", () -> row.reveal(assumed, shown, 1));
        Check.unsupported("what does not fit in a full row", () -> row.reveal(assumed, other, 1));
    }

    /** Of all x: 0 < x + 1, from number to number; the formulas and proofs of it in that order. */
    private static void induct() {
        WitnessRow row = row();
        int body = row.less(ZERO, NEXT);
        int all = row.bind('A', 0, body);
        int atZero = row.put(body, 0, ZERO);
        int after = row.put(body, 0, NEXT);
        int first = row.assume(0, atZero);
        int step = row.assume(1, row.bind('A', 0, row.join(body, '>', after)));
        Check.due("induct", 2, () -> row.induct(first, step, all));
        proof(row, "induct", 2, all, 3);
        Check.unsupported("it is not of 0", () -> row.induct(row.assume(0, after), step, all));
        int plain = row.assume(2, row.join(body, '>', after));
        Check.unsupported("the step is not of all", () -> row.induct(first, plain, all));
        int some = row.assume(2, row.bind('E', 0, row.join(body, '>', after)));
        Check.unsupported("the step is of some", () -> row.induct(first, some, all));
        int back = row.assume(2, row.bind('A', 0, row.join(after, '>', body)));
        Check.unsupported("the step goes back", () -> row.induct(first, back, all));
        int both = row.assume(2, row.bind('A', 0, row.join(body, '&', after)));
        Check.unsupported("the step is of both", () -> row.induct(first, both, all));
        int another = row.assume(2, row.bind('A', 1, row.join(body, '>', after)));
        Check.unsupported("the step is of another variable", () -> row.induct(first, another, all));
        int swapped = row.put(body, 0, row.plus(ONE, X));
        int turned = row.assume(2, row.bind('A', 0, row.join(body, '>', swapped)));
        Check.unsupported("one and x is another sum", () -> row.induct(first, turned, all));
        Check.unsupported("what is proved is of some", () -> row.induct(first, step, row.bind('E', 0, body)));
        Check.unsupported("what is proved is plain", () -> row.induct(first, step, body));
        int clash = row.assume(1, atZero);
        Check.unsupported("labels do not agree", () -> row.induct(clash, step, all));
        for (int wrong : NO_PROOF) {
            Check.noIndex("induct from " + wrong, () -> row.induct(wrong, step, all));
            Check.noIndex("induct by " + wrong, () -> row.induct(first, wrong, all));
            Check.noIndex("induct to " + wrong, () -> row.induct(first, step, wrong));
        }
        fillFormulas(row);
        Check.due("induct without room for formulas", clash + 1, () -> row.induct(first, step, all));
        while (row.assume(5, EQUAL) < 59) {
            continue;
        }
        Check.noRoom("induct in a full row", () -> row.induct(first, step, all));
        Check.unsupported("what does not fit in a full row", () -> row.induct(first, back, all));
    }

    /** Without x in the formula, and without 0, 1 and x told, induct() goes from it to itself. */
    private static void inductIdle() {
        WitnessRow row = new WitnessRow();
        int seven = row.number(7);
        int body = row.equal(seven, seven);
        int all = row.bind('A', 3, body);
        int step = row.assume(1, row.bind('A', 3, row.join(body, '>', body)));
        int first = row.fact(body);
        Check.due("induct of what is always the same", 2, () -> row.induct(first, step, all));
        Check.due("no term is told for it", 1, () -> row.number(9));
    }

    private static void rewrite() {
        WitnessRow row = row();
        int xIsOne = row.assume(0, row.equal(X, ONE));
        int xLess = row.assume(1, LESS);
        int z = row.variable(2);
        int pattern = row.less(z, Y);
        int oneLess = row.less(ONE, Y);
        Check.due("rewrite", 2, () -> row.rewrite(xIsOne, xLess, pattern, 2));
        proof(row, "rewrite", 2, oneLess, 3);
        Check.due("rewrite x itself", 3, () -> row.rewrite(xIsOne, xLess, LESS, 0));
        proof(row, "rewrite x itself", 3, oneLess, 3);
        Check.due("rewrite nothing", 4, () -> row.rewrite(xIsOne, xLess, LESS, 5));
        proof(row, "rewrite nothing", 4, LESS, 3);
        Check.unsupported("rewrite the second with the first", () -> row.rewrite(xIsOne, 2, pattern, 2));
        Check.unsupported("rewrite what is less", () -> row.rewrite(xLess, xLess, pattern, 2));
        Check.unsupported("rewrite another formula", () -> row.rewrite(xIsOne, xLess, EQUAL, 2));
        int clash = row.assume(0, LESS);
        Check.unsupported("labels do not agree", () -> row.rewrite(xIsOne, clash, pattern, 2));
        for (int wrong : NO_PROOF) {
            Check.noIndex("rewrite by " + wrong, () -> row.rewrite(wrong, xLess, pattern, 9));
            Check.noIndex("rewrite the proof " + wrong, () -> row.rewrite(xIsOne, wrong, pattern, 9));
            Check.noIndex("rewrite the formula " + wrong, () -> row.rewrite(xIsOne, xLess, wrong, 9));
        }
        for (int wrong : NO_LABEL) {
            Check.noArgument("rewrite the variable " + wrong, () -> row.rewrite(xLess, xLess, pattern, wrong));
        }
        rewriteBound();
        rewriteWithoutRoom();
    }

    private static void rewriteBound() {
        WitnessRow row = row();
        int xIsY = row.assume(0, EQUAL);
        int z = row.variable(2);
        int pattern = row.bind('A', 1, row.less(z, Y));
        int proof = row.assume(1, row.put(pattern, 2, X));
        Check.unsupported("y would be bound", () -> row.rewrite(xIsY, proof, pattern, 2));
        int yIsX = row.assume(2, row.equal(Y, X));
        Check.unsupported("y would be bound ahead", () -> row.rewrite(yIsX, proof, pattern, 2));
        int long2 = row.assume(3, row.equal(X, row.plus(NEXT, NEXT)));
        int whole = longFormula(row);
        int proved = row.assume(4, whole);
        Check.unsupported("rewrite is too long", () -> row.rewrite(long2, proved, whole, 0));
    }

    private static void rewriteWithoutRoom() {
        WitnessRow row = row();
        int sum = row.assume(0, row.equal(X, TWO));
        int other = row.assume(1, row.equal(NEXT, row.plus(NEXT, X)));
        int formula = row.formulaOf(other);
        for (int value = 3; value < 55; value++) {
            row.number(value);
        }
        // 59 terms: 2 + 1 fits, (2 + 1) + 2 does not.
        long before = row.checksum();
        Check.noRoom("rewrite without room for terms", () -> row.rewrite(sum, other, formula, 0));
        Check.due("rewrite has told nothing", before, row::checksum);
        fillFormulas(row);
        int less = row.assume(1, LESS);
        long ahead = row.checksum();
        Check.noRoom("rewrite without room for formulas", () -> row.rewrite(sum, less, LESS, 0));
        Check.due("rewrite has told nothing there", ahead, row::checksum);
        while (row.assume(1, LESS) < 59) {
            continue;
        }
        Check.noRoom("rewrite in a full row", () -> row.rewrite(sum, less, LESS, 5));
        Check.unsupported("what does not fit in a full row", () -> row.rewrite(less, less, LESS, 5));
    }

    private static void decide() {
        WitnessRow row = new WitnessRow();
        int x = row.variable(0);
        int y = row.variable(1);
        int less = row.less(x, y);
        Check.due("decide", 0, () -> row.decide(less));
        proof(row, "decide", 0, 3, 0);
        looks(row, 3, '|', less, 2);
        looks(row, 2, '>', less, 1);
        looks(row, 1, '=', 2, 3);
        Check.due("0 is told ahead", 2, () -> row.number(0));
        Check.due("1 is told then", 3, () -> row.number(1));
        Check.unsupported("decide all", () -> row.decide(row.bind('A', 0, less)));
        int some = row.bind('E', 0, less);
        Check.unsupported("decide what has some in it", () -> row.decide(row.join(less, '&', some)));
        Check.unsupported("decide what has some in it first", () -> row.decide(row.join(some, '&', less)));
        for (int wrong : NO_PROOF) {
            Check.noIndex("decide " + wrong, () -> row.decide(wrong));
        }
        int f = less;
        for (int count = 0; count < 11; count++) {
            f = row.join(f, '&', less);
        }
        // 47 parts: 2 * 47 + 5 is 99; 2 * 49 + 5 is 103.
        int fortySeven = f;
        int nine = row.join(less, '>', row.less(row.plus(x, y), y));
        Check.due("decide 47 parts", '|', () -> row.kindOf(row.formulaOf(row.decide(fortySeven))));
        Check.due("decide 9 parts", '|', () -> row.kindOf(row.formulaOf(row.decide(nine))));
        int more = row.join(row.less(row.plus(x, y), y), '&', row.within(fortySeven, false));
        Check.unsupported("decide 49 parts", () -> row.decide(more));
        decideWithoutRoom();
    }

    private static void decideWithoutRoom() {
        WitnessRow row = new WitnessRow();
        int x = row.variable(0);
        int f = row.equal(x, x);
        for (int value = 2; value < 60; value++) {
            row.number(value);
        }
        // 59 terms: 0 fits, 1 does not.
        long before = row.checksum();
        Check.noRoom("decide without room for terms", () -> row.decide(f));
        Check.due("decide has told nothing", before, row::checksum);
        Check.due("no term came", 59, () -> row.number(60));
        WitnessRow formulas = new WitnessRow();
        int y = formulas.variable(1);
        int last = formulas.less(y, y);
        for (int count = 1; count < 58; count++) {
            last = formulas.bind('A', 0, last);
        }
        // 58 formulas: false and what follows fit, one or the other does not.
        long ahead = formulas.checksum();
        Check.noRoom("decide without room for formulas", () -> formulas.decide(0));
        Check.due("decide has told no formula, and no term", ahead, formulas::checksum);
        Check.due("0 was not told", 1, () -> formulas.number(7));
        WitnessRow full = full();
        Check.noRoom("decide in a full row", () -> full.decide(LESS));
        Check.unsupported("decide all in a full row", () -> full.decide(full.bind('A', 0, LESS)));
        Check.due("a full row has no more formulas", 4, () -> full.bind('E', 0, LESS));
    }

    private static void absurd() {
        WitnessRow row = row();
        int proof = row.assume(3, FALSE);
        int all = row.bind('A', 0, LESS);
        Check.due("absurd", 1, () -> row.absurd(proof, all));
        proof(row, "absurd", 1, all, 8);
        Check.due("absurd of itself", 2, () -> row.absurd(proof, FALSE));
        Check.unsupported("absurd of what is no false", () -> row.absurd(1, LESS));
        int turned = row.assume(3, row.equal(ONE, ZERO));
        Check.unsupported("1 = 0 is not it", () -> row.absurd(turned, LESS));
        int less = row.assume(3, row.less(ZERO, ONE));
        Check.unsupported("0 < 1 is not it", () -> row.absurd(less, LESS));
        int two = row.assume(3, row.equal(ZERO, TWO));
        Check.unsupported("0 = 2 is not it", () -> row.absurd(two, LESS));
        int same = row.assume(3, row.equal(ONE, ONE));
        Check.unsupported("1 = 1 is not it", () -> row.absurd(same, LESS));
        int variable = row.assume(3, row.equal(X, ONE));
        Check.unsupported("x = 1 is not it", () -> row.absurd(variable, LESS));
        for (int wrong : NO_PROOF) {
            Check.noIndex("absurd by " + wrong, () -> row.absurd(wrong, LESS));
            Check.noIndex("absurd of " + wrong, () -> row.absurd(proof, wrong));
        }
        while (row.assume(5, EQUAL) < 59) {
            continue;
        }
        Check.noRoom("absurd in a full row", () -> row.absurd(proof, LESS));
        Check.unsupported("no false in a full row", () -> row.absurd(59, LESS));
    }

    private static void made(WitnessRow row, String what, Rule rule, int open, int uses) {
        // What was open in the proof told last is not open in the next one.
        row.assume(5, FALSE);
        int proof = rule.on(row);
        Check.due(what + " has open", open, () -> row.openLabels(proof));
        Check.due(what + " uses", uses, () -> row.uses(proof));
    }

    /** Each rule keeps the labels of its proofs, and uses those alone; the proof 0 has nothing to do with them. */
    private static void keeps() {
        WitnessRow row = row();
        row.assume(4, LESS);
        int zero = row.assume(0, EQUAL);
        int pair = row.assume(0, row.join(EQUAL, '&', LESS));
        int all = row.assume(0, row.bind('A', 3, LESS));
        int falsehood = row.assume(0, FALSE);
        int some = row.assume(0, row.bind('E', 3, LESS));
        int follows = row.assume(1, row.join(EQUAL, '>', LESS));
        int other = row.assume(1, LESS);
        int either = row.assume(2, row.join(EQUAL, '|', LESS));
        int atNumber = row.bind('A', 3, EQUAL);
        int step = row.assume(1, row.bind('A', 3, row.join(EQUAL, '>', EQUAL)));
        made(row, "assume", r -> r.assume(3, LESS), 8, 1);
        made(row, "fact", r -> r.fact(r.equal(X, X)), 0, 1);
        made(row, "both", r -> r.both(zero, other), 3, 3);
        made(row, "part", r -> r.part(pair, true), 1, 2);
        made(row, "either", r -> r.either(zero, LESS, true), 1, 2);
        made(row, "cases", r -> r.cases(either, zero, zero, 3), 5, 3);
        made(row, "suppose", r -> r.suppose(zero, 3, LESS), 1, 2);
        made(row, "apply", r -> r.apply(follows, zero), 3, 3);
        made(row, "generalize", r -> r.generalize(zero, 2), 1, 2);
        made(row, "specialize", r -> r.specialize(all, TWO), 1, 2);
        made(row, "exhibit", r -> r.exhibit(other, r.formulaOf(some), TWO), 2, 2);
        made(row, "exhibit by 0", r -> r.exhibit(zero, r.bind('E', 3, EQUAL), TWO), 1, 2);
        made(row, "reveal", r -> r.reveal(some, other, 3), 3, 3);
        made(row, "induct", r -> r.induct(zero, step, atNumber), 3, 3);
        int stepByZero = row.assume(0, row.formulaOf(step));
        int start = row.assume(1, EQUAL);
        made(row, "induct with a step by 0", r -> r.induct(start, stepByZero, atNumber), 3, 3);
        made(row, "rewrite", r -> r.rewrite(zero, other, LESS, 3), 3, 3);
        made(row, "decide", r -> r.decide(EQUAL), 0, 1);
        made(row, "absurd", r -> r.absurd(falsehood, LESS), 1, 2);
    }

    private static void sidesTooLong() {
        WitnessRow row = row();
        int whole = longFormula(row);
        int proof = row.assume(0, whole);
        Check.unsupported("either of what is long, first", () -> row.either(proof, EQUAL, true));
        Check.unsupported("either of what is long, second", () -> row.either(proof, EQUAL, false));
        Check.unsupported("either with what is long, second", () -> row.either(row.assume(1, EQUAL), whole, false));
        Check.unsupported("both with what is long", () -> row.both(row.assume(1, EQUAL), proof));
        Check.unsupported("suppose of what is long", () -> row.suppose(proof, 3, EQUAL));
    }

    public static void main(String[] args) {
        keeps();
        sidesTooLong();
        assume();
        fact();
        both();
        part();
        either();
        cases();
        suppose();
        apply();
        generalize();
        specialize();
        exhibit();
        reveal();
        induct();
        inductIdle();
        rewrite();
        decide();
        absurd();
        Check.end();
    }
}
