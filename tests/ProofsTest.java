/** Promises 31 to 36. */
public final class ProofsTest {
    private static final int[] NO_PROOF = {-1, 60, Integer.MIN_VALUE, Integer.MAX_VALUE};

    /** Terms: x, y, 0, 1. Formulas: 0: x = y, 1: x < y, 2: x = x. */
    private static WitnessRow row() {
        WitnessRow row = new WitnessRow();
        row.variable(0);
        row.variable(1);
        row.number(0);
        row.number(1);
        row.equal(0, 1);
        row.less(0, 1);
        row.equal(0, 0);
        return row;
    }

    private static void figures(WitnessRow row, String what, int proof, int uses, int depth, int detours) {
        Check.due("uses of " + what, uses, () -> row.uses(proof));
        Check.due("depth of " + what, depth, () -> row.depth(proof));
        Check.due("detours of " + what, detours, () -> row.detours(proof));
    }

    private static void labels() {
        WitnessRow row = row();
        int first = row.assume(1, 0);
        int second = row.assume(4, 1);
        int both = row.both(first, second);
        int closed = row.suppose(both, 1, 0);
        Check.due("formulaOf", 0, () -> row.formulaOf(first));
        Check.due("formulaOf both", 3, () -> row.formulaOf(both));
        Check.due("openLabels", 2, () -> row.openLabels(first));
        Check.due("openLabels of both", 18, () -> row.openLabels(both));
        Check.due("openLabels of what is supposed", 16, () -> row.openLabels(closed));
        Check.due("openLabels of none", 0, () -> row.openLabels(row.fact(2)));
        Check.due("labelOf 1", 0, () -> row.labelOf(both, 1));
        Check.due("labelOf 4", 1, () -> row.labelOf(both, 4));
        Check.noElement("labelOf 0", () -> row.labelOf(both, 0));
        Check.noElement("labelOf what is closed", () -> row.labelOf(closed, 1));
        Check.due("labelOf what stays open", 1, () -> row.labelOf(closed, 4));
        for (int wrong : new int[] {-1, 6, Integer.MIN_VALUE, Integer.MAX_VALUE}) {
            Check.noArgument("labelOf the label " + wrong, () -> row.labelOf(both, wrong));
        }
        for (int wrong : NO_PROOF) {
            Check.noIndex("formulaOf " + wrong, () -> row.formulaOf(wrong));
            Check.noIndex("openLabels of " + wrong, () -> row.openLabels(wrong));
            Check.noIndex("labelOf the proof " + wrong, () -> row.labelOf(wrong, 9));
            Check.noIndex("uses of " + wrong, () -> row.uses(wrong));
            Check.noIndex("depth of " + wrong, () -> row.depth(wrong));
            Check.noIndex("detours of " + wrong, () -> row.detours(wrong));
        }
    }

    private static void shared() {
        WitnessRow row = row();
        int first = row.assume(0, 0);
        figures(row, "assume", first, 1, 1, 0);
        int twice = row.both(first, first);
        figures(row, "both of the same", twice, 2, 2, 0);
        int again = row.assume(0, 0);
        int apart = row.both(first, again);
        figures(row, "both of two alike", apart, 3, 2, 0);
        int deep = row.both(twice, first);
        figures(row, "both of both", deep, 3, 3, 0);
        int part = row.part(deep, false);
        figures(row, "part of it", part, 4, 4, 1);
        int over = row.part(part, true);
        figures(row, "part of the part", over, 5, 5, 1);
        int late = row.both(row.part(twice, true), over);
        figures(row, "both of detours", late, 7, 6, 2);
        figures(row, "fact", row.fact(2), 1, 1, 0);
        figures(row, "decide", row.decide(1), 1, 1, 0);
        figures(row, "both of one detour twice", row.both(part, part), 5, 5, 1);
    }

    /** A detour each, and beside it the same rule of what is only assumed. */
    private static void detours() {
        WitnessRow row = row();
        int same = row.fact(2);
        int labelled = row.assume(1, 2);
        int either = row.either(same, 0, true);
        figures(row, "cases of either", row.cases(either, same, same, 0), 3, 3, 1);
        int assumed = row.assume(0, row.formulaOf(either));
        figures(row, "cases of what is assumed", row.cases(assumed, same, labelled, 5), 4, 2, 0);
        figures(row, "cases with either in a case", row.cases(row.assume(0, row.join(0, '|', 1)), either, either, 5),
                4, 3, 0);
        int follows = row.suppose(same, 3, 0);
        int x = row.assume(2, 0);
        figures(row, "apply of suppose", row.apply(follows, x), 4, 3, 1);
        figures(row, "apply of what is assumed", row.apply(row.assume(0, row.formulaOf(follows)), x), 3, 2, 0);
        int all = row.generalize(same, 0);
        figures(row, "specialize of generalize", row.specialize(all, 1), 3, 3, 1);
        figures(row, "specialize of what is assumed", row.specialize(row.assume(0, row.formulaOf(all)), 1), 2, 2, 0);
        int some = row.exhibit(same, row.bind('E', 5, 2), 1);
        figures(row, "reveal of exhibit", row.reveal(some, same, 0), 3, 3, 1);
        figures(row, "reveal of what is assumed", row.reveal(row.assume(0, row.formulaOf(some)), same, 0), 3, 2, 0);
        figures(row, "reveal with exhibit in what is shown",
                row.reveal(row.assume(0, row.formulaOf(some)), some, 1), 4, 3, 0);
        int function = row.assume(0, row.join(row.formulaOf(follows), '>', 0));
        figures(row, "apply to suppose", row.apply(function, follows), 4, 3, 0);
        int pair = row.part(row.both(all, follows), false);
        figures(row, "specialize of part of both", row.specialize(pair, 1), 6, 5, 1);
        int wrapped = row.specialize(row.generalize(pair, 4), 1);
        figures(row, "two detours, one in the other", wrapped, 7, 6, 2);
    }

    private static void others() {
        WitnessRow row = row();
        int falsehood = row.equal(2, 3);
        int wrong = row.assume(0, falsehood);
        figures(row, "absurd", row.absurd(wrong, 1), 2, 2, 0);
        int equality = row.assume(1, 0);
        int other = row.assume(2, 1);
        figures(row, "rewrite", row.rewrite(equality, row.part(row.both(other, wrong), false), 1, 5), 6, 4, 1);
        int step = row.generalize(row.suppose(row.assume(3, 0), 3, 0), 4);
        int idle = row.bind('A', 4, 0);
        int induction = row.induct(equality, step, idle);
        Check.due("induct is there", idle, () -> row.formulaOf(induction));
        figures(row, "induct", induction, 5, 4, 0);
        figures(row, "specialize of induct", row.specialize(induction, 0), 6, 5, 0);
    }

    /** 60 proofs, one above the other: the last one uses all, and every second one is a detour. */
    private static void fullRow() {
        WitnessRow row = row();
        int falsehood = row.equal(2, 3);
        int last = row.assume(0, falsehood);
        for (int count = 1; count < 60; count++) {
            last = row.absurd(last, falsehood);
            int proof = last;
            figures(row, "absurd over " + count, proof, count + 1, count + 1, 0);
            Check.due("openLabels of absurd over " + count, 1, () -> row.openLabels(proof));
        }
        figures(row, "the last one", 59, 60, 60, 0);
        figures(row, "the first one", 0, 1, 1, 0);
        WitnessRow other = row();
        int part = other.fact(2);
        for (int count = 1; count < 59; count += 2) {
            part = other.part(other.both(part, part), count % 4 == 1);
            figures(other, "part over " + count, part, count + 2, count + 2, (count + 1) / 2);
        }
        other.both(part, part);
        figures(other, "both at last", 59, 60, 60, 29);
        Check.due("meanDepth of 1 to 60", 30.5, other::meanDepth);
        Check.due("closedShare of closed ones", 1.0f, other::closedShare);
        Check.due("closedShare of open ones", 0.0f, row::closedShare);
    }

    public static void main(String[] args) {
        labels();
        fullRow();
        shared();
        detours();
        others();
        Check.end();
    }
}
