/**
 * 'At most 60 are numbered from 0': each call that tells something, with just as much room as it needs, and with one
 * less; then nothing is told, not even the part that would have found room.
 */
public final class FullTest {
    private static final int MOST = Sample.MOST;

    private interface Call {
        int on(Sample s, WitnessRow row);
    }

    /** A call that tells so many terms and formulas, and a proof or not. */
    private static void fits(String what, int terms, int formulas, boolean isProof, Call call) {
        Sample s = new Sample();
        Sample.fillTerms(s.row, MOST - terms);
        Sample.fillFormulas(s.row, MOST - formulas);
        Sample.fillProofs(s.row, MOST - 1);
        Check.due(what + " fits", MOST - 1, () -> call.on(s, s.row));
        if (isProof && formulas > 0) {
            Check.due(what + " is of the last formula", MOST - 1, () -> s.row.formulaOf(MOST - 1));
        }
        if (terms > 0) {
            Check.noRoom(what + " leaves no room for terms", () -> s.row.variable(4));
        }
        if (formulas > 0) {
            Check.noRoom(what + " leaves no room for formulas", () -> s.row.equal(s.y, s.x));
        }
        if (isProof) {
            Check.noRoom(what + " leaves no room for proofs", () -> s.row.assume(0, s.equal));
        }
        for (int room = 0; room < terms; room++) {
            lacks(what, room, formulas, call);
        }
        for (int room = 0; room < formulas; room++) {
            lacks(what, terms, room, call);
        }
    }

    private static void lacks(String what, int termRoom, int formulaRoom, Call call) {
        Sample s = new Sample();
        Sample.fillTerms(s.row, MOST - termRoom);
        Sample.fillFormulas(s.row, MOST - formulaRoom);
        String rooms = what + " with room for terms " + termRoom + " and formulas " + formulaRoom;
        String before = Sample.told(s.row);
        Check.noRoom(rooms, () -> call.on(s, s.row));
        Check.due(rooms + " has changed nothing", before, () -> Sample.told(s.row));
        for (int number = 0; number < termRoom; number++) {
            int value = 98 - number;
            Check.due(rooms + " leaves room for terms", MOST - termRoom + number, () -> s.row.number(value));
        }
        for (int number = 0; number < formulaRoom; number++) {
            int variable = number;
            Check.due(rooms + " leaves room for formulas", MOST - formulaRoom + number,
                    () -> s.row.bind('E', variable, s.falsehood));
        }
    }

    private static void terms() {
        fits("2 variable", 1, 0, false, (s, row) -> row.variable(5));
        fits("3 number", 1, 0, false, (s, row) -> row.number(98));
        fits("4 plus", 1, 0, false, (s, row) -> row.plus(s.x, s.two));
        fits("5 times", 1, 0, false, (s, row) -> row.times(s.x, s.two));
    }

    private static void formulas() {
        fits("7 equal", 0, 1, false, (s, row) -> row.equal(s.y, s.two));
        fits("8 less", 0, 1, false, (s, row) -> row.less(s.y, s.two));
        fits("9 join by &", 0, 1, false, (s, row) -> row.join(s.less, '&', s.equal));
        fits("9 join by |", 0, 1, false, (s, row) -> row.join(s.less, '|', s.equal));
        fits("9 join by >", 0, 1, false, (s, row) -> row.join(s.less, '>', s.equal));
        fits("10 bind by A", 0, 1, false, (s, row) -> row.bind('A', 2, s.less));
        fits("10 bind by E", 0, 1, false, (s, row) -> row.bind('E', 2, s.less));
        fits("14 put", 0, 1, false, (s, row) -> row.put(s.less, 0, s.two));
        fits("14 put with a term", 1, 1, false, (s, row) -> row.put(s.lessThanNext, 0, s.two));
        fits("14 put into both", 0, 3, false, (s, row) -> row.put(s.both, 0, s.two));
        fits("14 put into all", 0, 2, false, (s, row) -> row.put(s.all, 0, s.two));
        // x + x and (x + x) + (x + x) and so on with y in place of x: six sums for two sides.
        fits("14 put with six terms", 6, 1, false, (s, row) -> row.put(s.whole, 0, s.y));
    }

    private static void proofs() {
        fits("15 assume", 0, 0, true, (s, row) -> row.assume(0, s.equal));
        fits("16 fact", 0, 0, true, (s, row) -> row.fact(s.same));
        fits("17 both", 0, 1, true, (s, row) -> row.both(s.hasLess, s.hasEqual));
        fits("18 part", 0, 0, true, (s, row) -> row.part(s.hasBoth, true));
        fits("19 either", 0, 1, true, (s, row) -> row.either(s.hasEqual, s.less, false));
        fits("20 cases", 0, 0, true, (s, row) -> row.cases(s.hasEither, s.isSame, s.isSame, 0));
        fits("21 suppose", 0, 1, true, (s, row) -> row.suppose(s.hasEqual, 0, s.equal));
        fits("22 apply", 0, 0, true, (s, row) -> row.apply(s.hasFollows, s.hasEqual));
        fits("23 generalize", 0, 1, true, (s, row) -> row.generalize(s.isSame, 2));
        fits("24 specialize", 0, 1, true, (s, row) -> row.specialize(s.hasAllLess, s.two));
        fits("24 specialize with a term", 1, 1, true, (s, row) -> row.specialize(s.hasAllNext, s.two));
        fits("24 specialize all some", 0, 2, true, (s, row) -> row.specialize(s.hasAllSome, s.two));
        fits("25 exhibit", 0, 0, true, (s, row) -> row.exhibit(s.isLessThanNext, s.some, s.next));
        fits("26 reveal", 0, 0, true, (s, row) -> row.reveal(s.hasSome, s.isSame, 0));
        fits("27 induct", 0, 0, true, (s, row) -> row.induct(s.areZeros, s.hasStep, s.allSame));
        fits("28 rewrite", 0, 1, true, (s, row) -> row.rewrite(s.hasEqual, s.hasLess, s.less, 0));
        fits("28 rewrite with a term", 1, 1, true, (s, row) -> row.rewrite(s.isTwo, s.isLessThanNext, s.lessThanNext, 0));
        fits("29 decide", 0, 2, true, (s, row) -> row.decide(s.less));
        fits("30 absurd", 0, 0, true, (s, row) -> row.absurd(s.hasFalsehood, s.less));
    }

    /** decide() where 0, 1 and false are not there yet: two terms and three formulas come. */
    private static void decide() {
        for (int termRoom = 0; termRoom <= 2; termRoom++) {
            for (int formulaRoom = 0; formulaRoom <= 3; formulaRoom++) {
                WitnessRow row = new WitnessRow();
                int x = row.variable(0);
                row.less(x, x);
                Sample.fillTerms(row, MOST - termRoom);
                Sample.fillFormulas(row, MOST - formulaRoom);
                String what = "29 decide with room for terms " + termRoom + " and formulas " + formulaRoom;
                String before = Sample.told(row);
                if (termRoom == 2 && formulaRoom == 3) {
                    Check.due(what, 0, () -> row.decide(0));
                    Check.due(what + " is of the last formula", MOST - 1, () -> row.formulaOf(0));
                    Check.due(what + " tells 0", MOST - 2, () -> row.number(0));
                    Check.due(what + " tells 1", MOST - 1, () -> row.number(1));
                    Check.due(what + " tells false ahead of it", MOST - 2, () -> row.within(MOST - 3, false));
                } else {
                    Check.noRoom(what, () -> row.decide(0));
                    Check.due(what + " has changed nothing", before, () -> Sample.told(row));
                }
            }
        }
    }

    /** What was taken back is not there, and what comes in its place is what it is told to be. */
    private static void takenBack() {
        Sample s = new Sample();
        Sample.fillTerms(s.row, MOST - 1);
        Sample.fillFormulas(s.row, MOST);
        int again = s.row.plus(s.x, s.x);
        Check.noRoom("14 put with a term that would have room", () -> s.row.put(s.lessThanNext, 0, s.two));
        Check.due("another term comes in its place", MOST - 1, () -> s.row.times(s.two, s.one));
        Check.due("6 it is what it is told to be", false, () -> s.row.areSame(MOST - 1, s.row.number(3)));
        Check.due("6 it is 2", true, () -> s.row.areSame(MOST - 1, s.two));
        Check.due("6 what was there stays", true, () -> s.row.areSame(again, s.row.plus(s.x, s.x)));
        Sample t = new Sample();
        Sample.fillTerms(t.row, MOST - 1);
        Sample.fillFormulas(t.row, MOST);
        Check.due("6 multiplied out ahead", false, () -> t.row.areSame(t.x, t.y));
        Check.noRoom("14 put with a term, once more", () -> t.row.put(t.lessThanNext, 0, t.two));
        Check.due("6 multiplied out between", true, () -> t.row.areSame(t.x, t.x));
        Check.due("another one in its place", MOST - 1, () -> t.row.plus(t.x, t.y));
        Check.due("6 x + y is not 2 + 1", false, () -> t.row.areSame(MOST - 1, t.row.number(3)));
        Check.due("6 x + y is itself", true, () -> t.row.areSame(MOST - 1, MOST - 1));
    }

    public static void main(String[] args) {
        terms();
        formulas();
        proofs();
        decide();
        takenBack();
        Check.end();
    }
}
