/** Promises 43 to 46. */
public final class FiguresTest {
    private static void empty() {
        WitnessRow row = new WitnessRow();
        Check.due("closedShare of none", "throws.ArithmeticException", row::closedShare);
        Check.due("meanDepth of none", "throws.ArithmeticException", row::meanDepth);
        row.equal(row.variable(0), row.number(4));
        Check.due("closedShare without proofs", "throws.ArithmeticException", row::closedShare);
        Check.due("meanDepth without proofs", "throws.ArithmeticException", row::meanDepth);
        Check.due("checksum without proofs", (7 * 31 + 2) * 31 + 1, row::checksum);
    }

    private static void shares() {
        WitnessRow row = new WitnessRow();
        int x = row.variable(0);
        int same = row.equal(x, x);
        int open = row.assume(5, same);
        Check.due("none is closed", 0.0f, row::closedShare);
        Check.due("the first one alone is closed", 0.5f, FiguresTest::firstIsClosed);
        Check.due("one alone", 1.0, row::meanDepth);
        int fact = row.fact(same);
        Check.due("one of two is closed", 0.5f, row::closedShare);
        row.suppose(open, 5, same);
        Check.due("two of three are closed", 2f / 3f, row::closedShare);
        Check.due("one of three is deeper", 4.0 / 3.0, row::meanDepth);
        row.both(row.both(fact, open), open);
        Check.due("two of five are closed", 0.4f, row::closedShare);
        Check.due("depths 1, 1, 2, 2, 3", 1.8, row::meanDepth);
        Check.due("sound", true, row::isSound);
    }

    /** The share of each number of closed proofs among 60, and the mean of depths 1 and 2. */
    private static void sixty() {
        for (int closed = 0; closed <= 60; closed++) {
            WitnessRow row = new WitnessRow();
            int same = row.equal(row.variable(0), row.variable(0));
            int fact = closed > 0 ? row.fact(same) : row.assume(0, same);
            int told = 1;
            for (; told < Math.max(closed, 1); told++) {
                row.suppose(fact, 5, same);
            }
            for (; told < 60; told++) {
                row.assume(5, same);
            }
            int deeper = Math.max(closed, 1) - 1;
            Check.due("closed of 60: " + closed, (float) closed / 60f, row::closedShare);
            Check.due("two deep of 60: " + deeper, (60.0 + deeper) / 60.0, row::meanDepth);
        }
    }

    private static float firstIsClosed() {
        WitnessRow row = new WitnessRow();
        int same = row.equal(row.number(1), row.number(1));
        row.fact(same);
        row.assume(0, same);
        return row.closedShare();
    }

    private static void checksum() {
        WitnessRow row = new WitnessRow();
        int x = row.variable(0);
        int y = row.variable(1);
        int same = row.equal(x, x);
        int less = row.less(x, y);
        row.assume(5, less);
        row.assume(0, same);
        row.both(0, 1);
        long sum = 7;
        for (int part : new int[] {less, 32, same, 1, 2, 33, 2, 3}) {
            sum = 31 * sum + part;
        }
        Check.due("checksum", sum, row::checksum);
        for (int count = 3; count < 60; count++) {
            row.assume(2, less);
        }
        sum = 7;
        for (int proof = 0; proof < 60; proof++) {
            sum = 31 * sum + row.formulaOf(proof);
            sum = 31 * sum + row.openLabels(proof);
        }
        sum = (31 * sum + 2) * 31 + 3;
        Check.due("checksum of a full row, which goes round", sum, row::checksum);
    }

    /** What is asked changes nothing. */
    private static void questions() {
        WitnessRow row = new WitnessRow();
        int x = row.variable(0);
        int y = row.variable(1);
        int next = row.plus(x, row.number(1));
        int some = row.bind('E', 1, row.less(x, y));
        int all = row.generalize(row.exhibit(row.fact(row.less(x, next)), some, next), 0);
        row.decide(row.equal(x, y));
        long before = row.checksum();
        Check.due("run", 5, () -> row.run(all, 4));
        Check.due("sound", true, row::isSound);
        Check.due("steps", 3, row::steps);
        Check.due("search", 5, () -> row.search(row.within(some, true), 4));
        Check.due("the row is as it was", before, row::checksum);
        Check.due("the steps are as they were", 3, row::steps);
    }

    /** Rows that are sound though they prove from what is wrong, or what is too great to be reckoned. */
    private static void sound() {
        WitnessRow row = new WitnessRow();
        int zero = row.number(0);
        int one = row.number(1);
        int x = row.variable(0);
        int wrong = row.assume(0, row.equal(zero, one));
        row.suppose(row.absurd(wrong, row.less(one, zero)), 0, row.formulaOf(wrong));
        row.absurd(wrong, row.bind('E', 1, row.less(row.variable(1), zero)));
        Check.due("what is wrong is open", true, row::isSound);
        int big = row.number(99);
        int square = row.times(big, big);
        row.decide(row.less(row.times(square, square), one));
        Check.due("what is too great", true, row::isSound);
        row.decide(row.less(x, one));
        row.generalize(row.fact(row.less(x, row.plus(x, one))), 0);
        Check.due("what has variables", true, row::isSound);
        int fact = row.fact(row.equal(x, x));
        int all = row.generalize(fact, 0);
        int some = row.exhibit(all, row.bind('E', 3, row.formulaOf(all)), one);
        row.generalize(some, 2);
        Check.due("some of all, and all of it", true, row::isSound);
        int next = row.plus(x, one);
        int inner = row.exhibit(row.fact(row.less(x, next)), row.bind('E', 1, row.less(x, row.variable(1))), next);
        row.generalize(inner, 0);
        row.exhibit(inner, row.bind('E', 2, row.formulaOf(inner)), x);
        Check.due("some within all, and some of some", true, row::isSound);
        row.generalize(row.exhibit(fact, row.bind('E', 0, row.formulaOf(fact)), x), 0);
        row.generalize(row.exhibit(row.fact(row.equal(one, one)), row.bind('E', 0, row.equal(x, one)), one), 0);
        Check.due("the variable of some is that of all", true, row::isSound);
    }

    public static void main(String[] args) {
        empty();
        shares();
        sixty();
        checksum();
        questions();
        sound();
        Check.end();
    }
}
