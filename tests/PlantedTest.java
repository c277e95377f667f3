import java.lang.reflect.Field;

/**
 * What no calls can lead to, since rules are checked: a proof of what is not so. It is planted in the object, in the
 * fields where this class holds its proofs, so that isSound() has something to find, and absurd() to be evaluated for.
 */
public final class PlantedTest {
    private final WitnessRow row = new WitnessRow();
    private final int x = row.variable(0);
    private final int y = row.variable(1);
    private final int zero = row.number(0);
    private final int one = row.number(1);
    private final int falsehood = row.equal(zero, one);
    private final int isY = row.equal(y, y);
    private final int some = row.bind('E', 1, isY);

    /** The formulas of the proofs of a row, by their numbers. */
    private static int[] provedBy(WitnessRow row) throws ReflectiveOperationException {
        Field proofs = WitnessRow.class.getDeclaredField("proofs");
        proofs.setAccessible(true);
        Field formulas = proofs.get(row).getClass().getDeclaredField("formulas");
        formulas.setAccessible(true);
        return (int[]) formulas.get(proofs.get(row));
    }

    /** How the state is held is free: where it is held in another way, nothing can be planted. */
    private static boolean canPlant() {
        try {
            return provedBy(new WitnessRow()) != null;
        } catch (ReflectiveOperationException e) {
            System.out.println("nothing planted, since proofs are held in another way than this test knows: " + e);
            return false;
        }
    }

    /** Lets a proof prove another formula, which it does not. */
    private void plant(int proof, int formula) {
        try {
            provedBy(row)[proof] = formula;
        } catch (ReflectiveOperationException e) {
            throw new IllegalStateException(e);
        }
        Check.due("planted", formula, () -> row.formulaOf(proof));
    }

    private void sound(String what, boolean want) {
        Check.due("46 isSound: " + what, want, row::isSound);
    }

    /** x or y less than a number, and y equal to x + 1: not so from that number on. */
    private int nextBelow(int term, int number) {
        int next = row.plus(x, one);
        return row.join(row.equal(y, next), '&', row.less(term, row.number(number)));
    }

    private int nextOfAll() {
        int next = row.plus(x, one);
        return row.generalize(row.exhibit(row.fact(row.equal(next, next)), row.bind('E', 1, row.equal(y, next)), next), 0);
    }

    /** Some within all is looked at for 0 to 3. */
    private static void inputs() {
        for (int wrongFrom = 0; wrongFrom < 7; wrongFrom++) {
            PlantedTest t = new PlantedTest();
            int all = t.nextOfAll();
            t.sound("of all x there is x + 1", true);
            t.plant(all, t.row.bind('A', 0, t.row.bind('E', 1, t.nextBelow(t.x, wrongFrom))));
            t.sound("wrong from " + wrongFrom + " on", wrongFrom > 3);
            int run = wrongFrom;
            Check.due("37 run for it", run + 1, () -> t.row.run(all, run));
            t.sound("wrong from " + wrongFrom + " on, behind a run", wrongFrom > 3);
        }
        for (int number = 0; number < 5; number++) {
            PlantedTest t = new PlantedTest();
            int all = t.nextOfAll();
            int wrongAt = t.row.join(t.row.equal(t.x, t.row.number(number)), '>', t.falsehood);
            t.plant(all, t.row.bind('A', 0, t.row.bind('E', 1, wrongAt)));
            t.sound("wrong for " + number + " alone", number > 3);
        }
    }

    private static void some() {
        PlantedTest t = new PlantedTest();
        int shown = t.row.exhibit(t.row.fact(t.row.equal(t.one, t.one)), t.some, t.one);
        t.sound("some y is y", true);
        t.plant(shown, t.row.bind('E', 1, t.row.equal(t.y, t.one)));
        t.sound("some y is 1, which it is", true);
        t.plant(shown, t.row.bind('E', 1, t.row.less(t.y, t.one)));
        t.sound("some y is less than 1, which 1 is not", false);
        t.plant(shown, t.row.bind('E', 0, t.row.less(t.x, t.one)));
        t.sound("some x is less than 1", false);
        t.plant(shown, t.row.bind('E', 0, t.row.less(t.y, t.one)));
        t.sound("y is less than 1 for some x, y being 0", true);
        t.plant(shown, t.row.bind('E', 0, t.row.less(t.one, t.y)));
        t.sound("1 is less than y for some x, y being 0", false);
        t.plant(shown, t.row.bind('E', 1, t.row.bind('E', 0, t.row.less(t.y, t.one))));
        t.sound("what is not plain is not looked at", true);
        t.plant(shown, t.row.bind('E', 1, t.row.join(t.some, '&', t.falsehood)));
        t.sound("nor with some in it", true);
    }

    private static void plain() {
        PlantedTest t = new PlantedTest();
        int open = t.row.assume(0, t.falsehood);
        t.sound("false, from a label", true);
        int fact = t.row.fact(t.row.equal(t.x, t.x));
        t.plant(fact, t.row.less(t.x, t.x));
        t.sound("x < x, which has a variable", true);
        t.plant(fact, t.row.join(t.falsehood, '&', t.row.equal(t.row.variable(5), t.zero)));
        t.sound("false and what has a variable", true);
        t.plant(fact, t.row.bind('A', 0, t.falsehood));
        t.sound("false of all, which is not plain", true);
        t.plant(fact, t.falsehood);
        t.sound("false", false);
        t.plant(fact, t.row.equal(t.zero, t.zero));
        t.sound("0 = 0", true);
        Check.due("32 the open one is open", 1, () -> t.row.openLabels(open));
        int more = t.row.number(99);
        int square = t.row.times(more, more);
        t.plant(fact, t.row.less(t.row.times(square, square), t.zero));
        t.sound("a number above 1000000, which is not reckoned", true);
        int last = t.row.fact(t.row.equal(t.y, t.y));
        t.plant(fact, t.row.equal(t.zero, t.zero));
        t.plant(last, t.falsehood);
        t.sound("the last one is false", false);
    }

    /** absurd(), evaluated: what comes first of everything. */
    private static void absurd() {
        PlantedTest t = new PlantedTest();
        WitnessRow row = t.row;
        int wrong = row.fact(row.equal(t.zero, t.zero));
        t.plant(wrong, t.falsehood);
        int exact = row.bind('E', 1, row.equal(t.y, t.y));
        gives(t, "some", 0, row.absurd(wrong, t.some), 1);
        int all = row.absurd(wrong, row.bind('A', 0, exact));
        Check.due("37 absurd() of some within all", 0, () -> row.run(all, 9));
        Check.due("40 it is not evaluated", 1, row::steps);
        int either = row.absurd(wrong, row.bind('A', 0, row.join(t.falsehood, '|', t.isY)));
        Check.due("39 absurd() of one or the other", true, () -> row.choice(either, 30));
        int both = row.absurd(wrong, row.join(t.falsehood, '&', t.some));
        gives(t, "both", 0, row.part(both, true), 2);
        int follows = row.absurd(wrong, row.join(t.isY, '>', t.some));
        gives(t, "what follows", 0, row.apply(follows, row.fact(t.isY)), 3);
        gives(t, "all", 0, row.specialize(all, t.one), 2);
        int chosen = row.absurd(wrong, row.join(t.some, '|', t.falsehood));
        int shown = row.exhibit(row.fact(row.equal(t.one, t.one)), t.some, t.one);
        gives(t, "the first choice", 0, row.cases(chosen, row.assume(0, t.some), shown, 0), 3);
        int within = row.absurd(wrong, row.bind('E', 0, row.join(t.isY, '&', t.some)));
        int opened = row.reveal(within, row.part(row.assume(0, row.join(t.isY, '&', t.some)), true), 0);
        gives(t, "what is said of some", 0, opened, 4);
        t.sound("false", false);
    }

    private static void gives(PlantedTest t, String what, int number, int proof, int steps) {
        Check.due("38 absurd() of " + what, number, () -> t.row.witness(proof));
        Check.due("40 absurd() of " + what, steps, t.row::steps);
    }

    /** Both ways of decide() that are not so are functions to nothing, or to what the second formula gives. */
    private static void decided() {
        PlantedTest t = new PlantedTest();
        WitnessRow row = t.row;
        int wrong = row.fact(row.equal(t.zero, t.zero));
        t.plant(wrong, t.falsehood);
        int either = row.join(t.falsehood, '|', row.equal(t.zero, t.zero));
        int follows = row.join(t.falsehood, '>', either);
        int one = row.exhibit(row.fact(row.equal(t.one, t.one)), t.some, t.one);
        int none = row.exhibit(row.fact(row.equal(t.zero, t.zero)), t.some, t.zero);
        int looked = row.cases(row.apply(row.assume(0, follows), wrong), none, one, 1);
        int chosen = row.cases(row.decide(follows), looked, none, 0);
        Check.due("38 false | 0 = 0 follows from false: the one that is true", 1, () -> row.witness(chosen));
        int applied = row.apply(row.assume(0, row.join(t.falsehood, '>', t.falsehood)), wrong);
        int anything = row.absurd(applied, t.some);
        Check.due("38 what follows from false is nothing", 0,
                () -> row.witness(row.cases(row.decide(t.falsehood), none, anything, 0)));
    }

    public static void main(String[] args) {
        if (canPlant()) {
            inputs();
            some();
            plain();
            absurd();
            decided();
        }
        Check.end();
    }
}
