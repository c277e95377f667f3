/** Promises 2 to 6. */
public final class TermsTest {
    private static final int LOW = Integer.MIN_VALUE;
    private static final int HIGH = Integer.MAX_VALUE;

    private static void variable() {
        WitnessRow row = new WitnessRow();
        Check.due("variable 5", 0, () -> row.variable(5));
        Check.due("variable 0", 1, () -> row.variable(0));
        Check.due("variable 5 again", 0, () -> row.variable(5));
        for (int wrong : new int[] {-1, 6, LOW, HIGH}) {
            Check.noArgument("variable " + wrong, () -> row.variable(wrong));
        }
        WitnessRow full = full();
        Check.due("variable 0 of a full row", 0, () -> full.variable(0));
        Check.noRoom("variable 1 of a full row", () -> full.variable(1));
        Check.noArgument("variable 6 of a full row", () -> full.variable(6));
    }

    /** The variable 0 and the numbers 0 to 58. */
    private static WitnessRow full() {
        WitnessRow row = new WitnessRow();
        row.variable(0);
        for (int value = 0; value < 59; value++) {
            row.number(value);
        }
        return row;
    }

    private static void number() {
        WitnessRow row = new WitnessRow();
        Check.due("number 0", 0, () -> row.number(0));
        Check.due("number 99", 1, () -> row.number(99));
        Check.due("variable 0, which is no number", 2, () -> row.variable(0));
        Check.due("number 0 again", 0, () -> row.number(0));
        for (int wrong : new int[] {-1, 100, LOW, HIGH}) {
            Check.noArgument("number " + wrong, () -> row.number(wrong));
        }
        WitnessRow full = full();
        Check.due("number 58 of a full row", 59, () -> full.number(58));
        Check.noRoom("number 59 of a full row", () -> full.number(59));
        Check.noArgument("number 100 of a full row", () -> full.number(100));
        Check.noRoom("number 60 of a full row", () -> full.number(60));
    }

    private static void made() {
        WitnessRow row = new WitnessRow();
        int x = row.variable(0);
        int two = row.number(2);
        Check.due("x + 2", 2, () -> row.plus(x, two));
        Check.due("2 + x, which is another term", 3, () -> row.plus(two, x));
        Check.due("x * 2", 4, () -> row.times(x, two));
        Check.due("2 * x", 5, () -> row.times(two, x));
        Check.due("x + x", 6, () -> row.plus(x, x));
        Check.due("x * x", 7, () -> row.times(x, x));
        Check.due("x + 2 again", 2, () -> row.plus(x, two));
        Check.due("x * x again", 7, () -> row.times(x, x));
        for (int wrong : new int[] {-1, 8, LOW, HIGH}) {
            Check.noIndex("plus of " + wrong, () -> row.plus(wrong, x));
            Check.noIndex("plus with " + wrong, () -> row.plus(x, wrong));
            Check.noIndex("times of " + wrong, () -> row.times(wrong, x));
            Check.noIndex("times with " + wrong, () -> row.times(x, wrong));
        }
        WitnessRow full = full();
        Check.noRoom("plus of a full row", () -> full.plus(0, 1));
        Check.noRoom("times of a full row", () -> full.times(0, 1));
        Check.noIndex("plus of no term of a full row", () -> full.plus(0, 60));
        Check.noIndex("times of no term of a full row", () -> full.times(60, 0));
    }

    private static void tooLong() {
        WitnessRow row = new WitnessRow();
        int x = row.variable(0);
        int three = row.plus(x, x);
        int seven = row.plus(three, three);
        int fifteen = row.times(seven, seven);
        int thirty = row.plus(fifteen, fifteen);
        int sixty = row.plus(thirty, thirty);
        int thirtyThree = row.plus(thirty, x);
        int thirtyFive = row.plus(thirtyThree, x);
        int thirtySeven = row.plus(thirtyFive, x);
        // 63 + 35 + 1 is 99 parts, 63 + 37 + 1 is 101.
        int ninetyNine = row.plus(sixty, thirtyFive);
        Check.unsupported("a sum of 101 parts", () -> row.plus(sixty, thirtySeven));
        Check.unsupported("a product of 101 parts", () -> row.times(sixty, thirtySeven));
        Check.due("a product of 99 parts", ninetyNine + 1, () -> row.times(sixty, thirtyFive));
        Check.unsupported("99 parts and one", () -> row.plus(ninetyNine, x));
        Check.unsupported("one and 99 parts", () -> row.times(x, ninetyNine));
        Check.due("nothing told", 7L * 961 + 31 * (ninetyNine + 2), row::checksum);
        for (int value = 0; value < 60; value++) {
            int number = value;
            Check.answerOf(() -> row.number(number));
        }
        Check.unsupported("too long comes ahead of no room", () -> row.plus(sixty, sixty));
        Check.noIndex("no term comes ahead of too long", () -> row.plus(sixty, 60));
    }

    private static void areSame() {
        WitnessRow row = new WitnessRow();
        int x = row.variable(0);
        int y = row.variable(1);
        int zero = row.number(0);
        int one = row.number(1);
        int two = row.number(2);
        int sum = row.plus(x, y);
        int square = row.times(sum, sum);
        int parts = row.plus(row.plus(row.times(x, x), row.times(two, row.times(y, x))), row.times(y, y));
        int xy = row.times(x, y);
        due(row, true, square, parts);
        due(row, true, parts, square);
        due(row, false, square, xy);
        due(row, true, xy, row.times(y, x));
        due(row, false, row.times(x, x), xy);
        due(row, true, row.times(sum, zero), zero);
        due(row, true, row.plus(x, zero), x);
        due(row, true, row.times(one, x), x);
        due(row, true, row.plus(one, one), two);
        due(row, false, row.plus(x, one), x);
        due(row, false, x, row.plus(x, one));
        due(row, false, row.times(two, x), x);
        due(row, false, x, y);
        due(row, true, x, x);
        due(row, false, zero, one);
        for (int wrong : new int[] {-1, 60, LOW, HIGH}) {
            Check.noIndex("areSame of " + wrong, () -> row.areSame(wrong, x));
            Check.noIndex("areSame with " + wrong, () -> row.areSame(x, wrong));
        }
    }

    private static void due(WitnessRow row, boolean want, int term, int other) {
        Check.due("areSame " + term + " " + other, want, () -> row.areSame(term, other));
    }

    private static void tooGreat() {
        WitnessRow row = new WitnessRow();
        int hundred = row.times(row.number(10), row.number(10));
        int million = row.times(row.times(hundred, hundred), hundred);
        int x = row.variable(0);
        int many = row.times(million, x);
        int zero = row.number(0);
        int over = row.plus(million, row.number(1));
        due(row, true, million, million);
        due(row, true, many, row.times(x, million));
        due(row, false, over, over);
        due(row, false, row.plus(many, x), row.plus(many, x));
        due(row, true, row.plus(many, million), row.plus(million, many));
        // A part of it is too great, though it is nothing by itself.
        due(row, false, row.times(over, zero), zero);
        due(row, false, row.times(zero, over), row.times(zero, over));
        due(row, false, row.plus(over, x), row.plus(over, x));
        int six = row.times(row.times(x, row.times(x, x)), row.times(x, row.times(x, x)));
        due(row, true, six, six);
        due(row, true, row.times(six, row.number(7)), row.times(row.number(7), six));
        int seven = row.times(six, row.variable(1));
        due(row, false, seven, seven);
        due(row, false, row.times(seven, zero), zero);
        Check.unsupported("no fact about it", () -> row.fact(row.equal(over, over)));
        Check.unsupported("nor is anything less", () -> row.fact(row.less(zero, over)));
        Check.unsupported("nor is it less", () -> row.fact(row.less(over, row.plus(million, million))));
        Check.unsupported("nor than what is not too great", () -> row.fact(row.less(over, million)));
        Check.due("nothing is less than a million", 0, () -> row.fact(row.less(zero, million)));
        int three = row.plus(row.plus(x, row.number(2)), row.variable(1));
        Check.unsupported("x + 2 + y < x + 3", () -> row.fact(row.less(three, row.plus(x, row.number(3)))));
        Check.due("x + 2 + y < x + 3 + y + y", 1, () -> row.fact(row.less(three,
                row.plus(row.plus(row.plus(x, row.number(3)), row.variable(1)), row.variable(1)))));
    }

    /** (1 + a + b + c) to the third is 20 products; times (d + e + 1) it is 60, and one more is too many. */
    private static void tooManyProducts() {
        WitnessRow row = new WitnessRow();
        int[] v = new int[6];
        for (int i = 0; i < 6; i++) {
            v[i] = row.variable(i);
        }
        int one = row.number(1);
        int four = row.plus(row.plus(row.plus(one, v[0]), v[1]), v[2]);
        int twenty = row.times(row.times(four, four), four);
        int sixty = row.times(twenty, row.plus(row.plus(v[3], v[4]), one));
        due(row, true, sixty, sixty);
        due(row, true, row.plus(sixty, v[3]), row.plus(v[3], sixty));
        int more = row.plus(sixty, v[5]);
        due(row, false, more, more);
        due(row, false, row.plus(sixty, v[5]), row.plus(v[5], sixty));
        int eighty = row.times(twenty, row.plus(row.plus(row.plus(v[3], v[4]), one), v[5]));
        due(row, false, eighty, eighty);
        // Two products meet in one: 60 products of 3 x 20, though 80 pairs.
        int meeting = row.times(twenty, row.plus(row.plus(row.plus(v[3], v[4]), one), one));
        due(row, true, meeting, meeting);
    }

    public static void main(String[] args) {
        variable();
        number();
        made();
        tooLong();
        areSame();
        tooGreat();
        tooManyProducts();
        Check.end();
    }
}
