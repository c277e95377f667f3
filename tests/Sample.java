/** A row with something for every call to go from, and ways to fill it up, for the tests of edges. */
final class Sample {
    static final int[] NO_NUMBER = {-1, 60, Integer.MIN_VALUE, Integer.MAX_VALUE};
    static final int[] NO_LABEL = {-1, 6, Integer.MIN_VALUE, Integer.MAX_VALUE};
    static final int MOST = 60;

    final WitnessRow row = new WitnessRow();

    final int x = row.variable(0);
    final int y = row.variable(1);
    final int zero = row.number(0);
    final int one = row.number(1);
    final int two = row.number(2);
    final int next = row.plus(x, one);
    private final int three = row.plus(x, x);
    private final int seven = row.plus(three, three);
    private final int fifteen = row.plus(seven, seven);
    private final int thirtyOne = row.plus(fifteen, fifteen);
    /** Sums of 47 and 51 parts. */
    final int fortySeven = row.plus(thirtyOne, fifteen);
    final int fiftyOne = row.plus(fortySeven, three);
    final int ninetyNine = row.number(99);
    final int square = row.times(ninetyNine, ninetyNine);
    /** 99 to the fourth, which is above 1000000. */
    final int great = row.times(square, square);

    final int equal = row.equal(x, y);
    final int less = row.less(x, y);
    final int falsehood = row.equal(zero, one);
    final int same = row.equal(x, x);
    final int lessThanNext = row.less(x, next);
    /** 99 parts, and all x of it, 100. */
    final int whole = row.equal(fiftyOne, fortySeven);
    final int allWhole = row.bind('A', 0, whole);
    final int all = row.bind('A', 1, less);
    final int some = row.bind('E', 1, less);
    final int follows = row.join(equal, '>', less);
    final int both = row.join(equal, '&', less);
    final int either = row.join(equal, '|', less);
    final int allSame = row.bind('A', 0, same);
    final int someAll = row.bind('E', 0, all);
    final int zeros = row.equal(zero, zero);
    final int someSame = row.bind('E', 0, same);
    final int greatLess = row.less(great, zero);
    private final int nexts = row.equal(next, next);
    private final int step = row.bind('A', 0, row.join(same, '>', nexts));

    /** What is assumed by the labels 0 to 2, and by the label 4. */
    final int hasEqual = row.assume(0, equal);
    final int hasLessBy0 = row.assume(0, less);
    final int hasLess = row.assume(1, less);
    final int hasWhole = row.assume(2, whole);
    final int hasFalsehood = by4(falsehood);
    final int hasFollows = by4(follows);
    final int hasBoth = by4(both);
    final int hasEither = by4(either);
    final int hasStep = by4(step);
    final int hasAll = by4(all);
    final int hasSome = by4(some);
    final int hasAllLess = by4(row.bind('A', 0, less));
    final int hasAllSome = by4(row.bind('A', 0, some));
    final int hasAllEither = by4(row.bind('A', 0, either));
    final int hasAllWhole = by4(allWhole);
    final int hasAllNext = by4(row.bind('A', 0, lessThanNext));
    final int isNext = by4(row.equal(x, next));
    final int isTwo = by4(row.equal(x, two));
    final int hasEqualBy4 = by4(equal);
    final int hasZerosBy4 = by4(zeros);

    final int isSame = row.fact(same);
    final int isLessThanNext = row.fact(lessThanNext);
    final int areZeros = row.fact(zeros);
    /** x = x, from the label 0, which has x = y. */
    final int isSameBy0 = row.part(row.both(isSame, hasEqual), false);

    /** Closed proofs of some, of some within all, of one or the other, and of that within all. */
    final int gives = row.exhibit(isLessThanNext, some, next);
    final int runs = row.generalize(gives, 0);
    final int decides = row.decide(equal);
    final int chooses = row.generalize(decides, 0);
    final int ofAll = row.generalize(isSame, 0);
    final int ofAllOfAll = row.generalize(runs, 3);

    /** Closed proofs whose runs are refused, since a number above 1000000 comes. */
    final int givesGreat = row.exhibit(row.specialize(ofAll, great), someSame, great);
    final int runsGreat = row.generalize(givesGreat, 0);
    final int choosesGreat = row.generalize(row.decide(greatLess), 0);

    private int by4(int formula) {
        return row.assume(4, formula);
    }

    /** Tells numbers from 3 on till there are so many terms. */
    static void fillTerms(WitnessRow row, int count) {
        int told = 0;
        for (int value = 3; value < 98 && told < count; value++) {
            int number = value;
            told = 1 + Integer.parseInt(Check.answerOf(() -> row.number(number)));
        }
    }

    /** Binds the variable 5 in the formula 0, and in what comes, till there are so many formulas. */
    static void fillFormulas(WitnessRow row, int count) {
        int told = 0;
        int last = 0;
        for (int turn = 0; turn < 90 && told < count; turn++) {
            last = row.bind('A', 5, last);
            told = last + 1;
        }
    }

    static void fillProofs(WitnessRow row, int count) {
        int told = 0;
        while (told < count) {
            told = 1 + row.assume(5, 0);
        }
    }

    private static boolean isThere(Check.Call call) {
        return !Check.answerOf(call).startsWith("throws");
    }

    /** All that can be asked of a row, but for the steps. */
    static String told(WitnessRow row) {
        StringBuilder text = new StringBuilder();
        text.append(row.checksum());
        for (int f = 0; f < MOST; f++) {
            int formula = f;
            if (!isThere(() -> row.kindOf(formula))) {
                break;
            }
            text.append(' ').append(row.kindOf(formula));
            text.append(row.within(formula, false)).append('.').append(row.within(formula, true));
        }
        for (int p = 0; p < MOST; p++) {
            int proof = p;
            if (!isThere(() -> row.formulaOf(proof))) {
                break;
            }
            text.append(' ').append(row.formulaOf(proof)).append('.').append(row.uses(proof));
            text.append('.').append(row.depth(proof)).append('.').append(row.detours(proof));
            for (int label = 0; label < 6; label++) {
                if ((row.openLabels(proof) >> label & 1) == 1) {
                    text.append(',').append(label).append('=').append(row.labelOf(proof, label));
                }
            }
        }
        return text.toString();
    }
}
