import java.util.Arrays;
import java.util.NoSuchElementException;

/** Proofs that must give what they promise: a row of terms, formulas and proofs, each numbered from 0. */
public final class WitnessRow {
    private static final int MOST = 60;
    private static final int VARIABLES = 6;
    private static final int LABELS = 6;
    private static final int LONGEST = 100;
    private static final int GREATEST = 1000000;
    private static final int GREATEST_TOLD = 99;
    private static final int GREATEST_INPUT = 30;
    private static final int INPUTS_CHECKED = 4;

    /** No term, formula, proof, value or label; also what a number is that was refused. */
    private static final int NONE = -1;

    // Kinds of terms; those from SUM on are made of two terms.
    private static final int VARIABLE = 0;
    private static final int NUMBER = 1;
    private static final int SUM = 2;
    private static final int PRODUCT = 3;

    // Rules, and LOOP, which is no rule: the function that induct() gives, at work.
    private static final int ASSUME = 0;
    private static final int FACT = 1;
    private static final int BOTH = 2;
    private static final int PART = 3;
    private static final int EITHER = 4;
    private static final int CASES = 5;
    private static final int SUPPOSE = 6;
    private static final int APPLY = 7;
    private static final int GENERALIZE = 8;
    private static final int SPECIALIZE = 9;
    private static final int EXHIBIT = 10;
    private static final int REVEAL = 11;
    private static final int INDUCT = 12;
    private static final int REWRITE = 13;
    private static final int DECIDE = 14;
    private static final int ABSURD = 15;
    private static final int LOOP = 16;

    private final Terms terms = new Terms();
    private final Formulas formulas = new Formulas(terms);
    private final Proofs proofs = new Proofs();
    private final Reckoner reckoner = new Reckoner(terms, formulas);

    /** Made by the first run, since a row without runs should stay small. */
    private Machine machine = null;
    private int lastSteps = 0;

    public WitnessRow() {
    }

    // ---- terms

    public int variable(int variable) throws IllegalArgumentException, IllegalStateException {
        needVariable(variable);
        return tellTerm(VARIABLE, variable, 0);
    }

    public int number(int value) throws IllegalArgumentException, IllegalStateException {
        needNumber(value, GREATEST_TOLD);
        return tellTerm(NUMBER, value, 0);
    }

    public int plus(int term, int other)
            throws IndexOutOfBoundsException, UnsupportedOperationException, IllegalStateException {
        return tellMade(SUM, term, other);
    }

    public int times(int term, int other)
            throws IndexOutOfBoundsException, UnsupportedOperationException, IllegalStateException {
        return tellMade(PRODUCT, term, other);
    }

    public boolean areSame(int term, int other) throws IndexOutOfBoundsException {
        needTerm(term);
        needTerm(other);
        return terms.multipliedOut().areEqual(term, other);
    }

    // ---- formulas

    public int equal(int term, int other)
            throws IndexOutOfBoundsException, UnsupportedOperationException, IllegalStateException {
        return tellCompared('=', term, other);
    }

    public int less(int term, int other)
            throws IndexOutOfBoundsException, UnsupportedOperationException, IllegalStateException {
        return tellCompared('<', term, other);
    }

    public int join(int formula, char way, int other)
            throws IndexOutOfBoundsException, IllegalArgumentException, UnsupportedOperationException,
            IllegalStateException {
        needFormula(formula);
        needFormula(other);
        needWay(way == '&' || way == '|' || way == '>');
        needShort(way, formula, other);
        return tellFormula(way, formula, other);
    }

    public int bind(char way, int variable, int formula)
            throws IndexOutOfBoundsException, IllegalArgumentException, UnsupportedOperationException,
            IllegalStateException {
        needFormula(formula);
        needWay(way == 'A' || way == 'E');
        needVariable(variable);
        needShort(way, variable, formula);
        return tellFormula(way, variable, formula);
    }

    public char kindOf(int formula) throws IndexOutOfBoundsException {
        needFormula(formula);
        return formulas.kindAt(formula);
    }

    public int within(int formula, boolean isSecond) throws IndexOutOfBoundsException {
        needFormula(formula);
        return formulas.partAt(formula, isSecond);
    }

    public boolean isFree(int formula, int variable) throws IndexOutOfBoundsException, IllegalArgumentException {
        needFormula(formula);
        needVariable(variable);
        return formulas.hasFree(formula, variable);
    }

    public int put(int formula, int variable, int term)
            throws IndexOutOfBoundsException, IllegalArgumentException, UnsupportedOperationException,
            IllegalStateException {
        needFormula(formula);
        needTerm(term);
        needVariable(variable);
        needPlace(formula, variable, term);
        return tellWithTerm(formula, variable, term);
    }

    // ---- rules

    public int assume(int label, int formula)
            throws IndexOutOfBoundsException, IllegalArgumentException, IllegalStateException {
        needFormula(formula);
        needLabel(label);
        needProofRoom();
        proofs.gatherNothing();
        proofs.gatherLabel(label, formula);
        return proofs.tell(ASSUME, formula, label, NONE, NONE, NONE);
    }

    public int fact(int formula)
            throws IndexOutOfBoundsException, UnsupportedOperationException, IllegalStateException {
        needFormula(formula);
        needFit(isFact(formula));
        needProofRoom();
        proofs.gatherNothing();
        return proofs.tell(FACT, formula, NONE, NONE, NONE, NONE);
    }

    public int both(int proof, int other)
            throws IndexOutOfBoundsException, UnsupportedOperationException, IllegalStateException {
        needProof(proof);
        needProof(other);
        needFit(gatherTwo(proof, other, NONE));
        int first = proofs.formulaAt(proof);
        int second = proofs.formulaAt(other);
        needShort('&', first, second);
        needProofRoom();
        return proofs.tell(BOTH, tellFormula('&', first, second), NONE, proof, other, NONE);
    }

    public int part(int proof, boolean isSecond)
            throws IndexOutOfBoundsException, UnsupportedOperationException, IllegalStateException {
        needProof(proof);
        int formula = proofs.formulaAt(proof);
        needFit(formulas.kindAt(formula) == '&');
        needProofRoom();
        gatherOne(proof, NONE);
        return proofs.tell(PART, formulas.partAt(formula, isSecond), isSecond ? 1 : 0, proof, NONE, NONE);
    }

    public int either(int proof, int formula, boolean isFirst)
            throws IndexOutOfBoundsException, UnsupportedOperationException, IllegalStateException {
        needProof(proof);
        needFormula(formula);
        int proved = proofs.formulaAt(proof);
        int first = isFirst ? proved : formula;
        int second = isFirst ? formula : proved;
        needShort('|', first, second);
        needProofRoom();
        gatherOne(proof, NONE);
        return proofs.tell(EITHER, tellFormula('|', first, second), isFirst ? 1 : 0, proof, NONE, NONE);
    }

    public int cases(int proof, int first, int second, int label)
            throws IndexOutOfBoundsException, IllegalArgumentException, UnsupportedOperationException,
            IllegalStateException {
        needProof(proof);
        needProof(first);
        needProof(second);
        needLabel(label);
        needFit(areCases(proof, first, second, label));
        needProofRoom();
        return proofs.tell(CASES, proofs.formulaAt(first), label, proof, first, second);
    }

    public int suppose(int proof, int label, int formula)
            throws IndexOutOfBoundsException, IllegalArgumentException, UnsupportedOperationException,
            IllegalStateException {
        needProof(proof);
        needFormula(formula);
        needLabel(label);
        needFit(proofs.mayHave(proof, label, formula));
        int proved = proofs.formulaAt(proof);
        needShort('>', formula, proved);
        needProofRoom();
        gatherOne(proof, label);
        return proofs.tell(SUPPOSE, tellFormula('>', formula, proved), label, proof, NONE, NONE);
    }

    public int apply(int proof, int other)
            throws IndexOutOfBoundsException, UnsupportedOperationException, IllegalStateException {
        needProof(proof);
        needProof(other);
        int formula = proofs.formulaAt(proof);
        needFit(formulas.kindAt(formula) == '>');
        needFit(formulas.partAt(formula, false) == proofs.formulaAt(other));
        needFit(gatherTwo(proof, other, NONE));
        needProofRoom();
        return proofs.tell(APPLY, formulas.partAt(formula, true), NONE, proof, other, NONE);
    }

    public int generalize(int proof, int variable)
            throws IndexOutOfBoundsException, IllegalArgumentException, UnsupportedOperationException,
            IllegalStateException {
        needProof(proof);
        needVariable(variable);
        needFit(!isFreeInLabels(proof, variable, NONE));
        int proved = proofs.formulaAt(proof);
        needShort('A', variable, proved);
        needProofRoom();
        gatherOne(proof, NONE);
        return proofs.tell(GENERALIZE, tellFormula('A', variable, proved), variable, proof, NONE, NONE);
    }

    public int specialize(int proof, int term)
            throws IndexOutOfBoundsException, UnsupportedOperationException, IllegalStateException {
        needProof(proof);
        needTerm(term);
        int formula = proofs.formulaAt(proof);
        needFit(formulas.kindAt(formula) == 'A');
        int variable = formulas.partAt(formula, false);
        int body = formulas.partAt(formula, true);
        needPlace(body, variable, term);
        needProofRoom();
        gatherOne(proof, NONE);
        return proofs.tell(SPECIALIZE, tellWithTerm(body, variable, term), term, proof, NONE, NONE);
    }

    public int exhibit(int proof, int formula, int term)
            throws IndexOutOfBoundsException, UnsupportedOperationException, IllegalStateException {
        needProof(proof);
        needFormula(formula);
        needTerm(term);
        needFit(formulas.kindAt(formula) == 'E');
        int variable = formulas.partAt(formula, false);
        int body = formulas.partAt(formula, true);
        needFit(isWithTerm(proofs.formulaAt(proof), body, variable, term));
        needProofRoom();
        gatherOne(proof, NONE);
        return proofs.tell(EXHIBIT, formula, term, proof, NONE, NONE);
    }

    public int reveal(int proof, int other, int label)
            throws IndexOutOfBoundsException, IllegalArgumentException, UnsupportedOperationException,
            IllegalStateException {
        needProof(proof);
        needProof(other);
        needLabel(label);
        needFit(isRevealed(proof, other, label));
        needProofRoom();
        return proofs.tell(REVEAL, proofs.formulaAt(other), label, proof, other, NONE);
    }

    public int induct(int proof, int other, int formula)
            throws IndexOutOfBoundsException, UnsupportedOperationException, IllegalStateException {
        needProof(proof);
        needProof(other);
        needFormula(formula);
        needFit(isInduction(proofs.formulaAt(proof), proofs.formulaAt(other), formula));
        needFit(gatherTwo(proof, other, NONE));
        needProofRoom();
        return proofs.tell(INDUCT, formula, NONE, proof, other, NONE);
    }

    public int rewrite(int proof, int other, int formula, int variable)
            throws IndexOutOfBoundsException, IllegalArgumentException, UnsupportedOperationException,
            IllegalStateException {
        needProof(proof);
        needProof(other);
        needFormula(formula);
        needVariable(variable);
        int equality = proofs.formulaAt(proof);
        needFit(formulas.kindAt(equality) == '=');
        int before = formulas.partAt(equality, false);
        int after = formulas.partAt(equality, true);
        needFit(isWithTerm(proofs.formulaAt(other), formula, variable, before));
        needPlace(formula, variable, after);
        needFit(gatherTwo(proof, other, NONE));
        needProofRoom();
        return proofs.tell(REWRITE, tellWithTerm(formula, variable, after), NONE, proof, other, NONE);
    }

    public int decide(int formula)
            throws IndexOutOfBoundsException, UnsupportedOperationException, IllegalStateException {
        needFormula(formula);
        needFit(formulas.isPlain(formula));
        // The formula comes twice; one or the other, what follows, and false with its two numbers come besides.
        needFit(2 * formulas.lengthAt(formula) + 5 <= LONGEST);
        needProofRoom();
        proofs.gatherNothing();
        return proofs.tell(DECIDE, tellDecided(formula), NONE, NONE, NONE, NONE);
    }

    public int absurd(int proof, int formula)
            throws IndexOutOfBoundsException, UnsupportedOperationException, IllegalStateException {
        needProof(proof);
        needFormula(formula);
        needFit(isFalse(proofs.formulaAt(proof)));
        needProofRoom();
        gatherOne(proof, NONE);
        return proofs.tell(ABSURD, formula, NONE, proof, NONE, NONE);
    }

    // ---- proofs

    public int formulaOf(int proof) throws IndexOutOfBoundsException {
        needProof(proof);
        return proofs.formulaAt(proof);
    }

    public int openLabels(int proof) throws IndexOutOfBoundsException {
        needProof(proof);
        return proofs.openAt(proof);
    }

    public int labelOf(int proof, int label)
            throws IndexOutOfBoundsException, IllegalArgumentException, NoSuchElementException {
        needProof(proof);
        needLabel(label);
        int formula = proofs.labelAt(proof, label);
        if (formula == NONE) {
            throw new NoSuchElementException("the label is not open");
        }
        return formula;
    }

    public int uses(int proof) throws IndexOutOfBoundsException {
        needProof(proof);
        return proofs.countUsed(proof, false);
    }

    public int depth(int proof) throws IndexOutOfBoundsException {
        needProof(proof);
        return proofs.depthAt(proof);
    }

    public int detours(int proof) throws IndexOutOfBoundsException {
        needProof(proof);
        return proofs.countUsed(proof, true);
    }

    // ---- runs

    public int run(int proof, int input)
            throws IndexOutOfBoundsException, IllegalArgumentException, UnsupportedOperationException {
        needProof(proof);
        needNumber(input, GREATEST_INPUT);
        needFit(proofs.isClosed(proof) && formulas.isAllOf(proofs.formulaAt(proof), 'E'));
        return evaluated(proof, input).numberGiven();
    }

    public int witness(int proof) throws IndexOutOfBoundsException, UnsupportedOperationException {
        needProof(proof);
        needFit(proofs.isClosed(proof) && formulas.kindAt(proofs.formulaAt(proof)) == 'E');
        return evaluated(proof, NONE).numberGiven();
    }

    public boolean choice(int proof, int input)
            throws IndexOutOfBoundsException, IllegalArgumentException, UnsupportedOperationException {
        needProof(proof);
        needNumber(input, GREATEST_INPUT);
        needFit(proofs.isClosed(proof) && formulas.isAllOf(proofs.formulaAt(proof), '|'));
        return evaluated(proof, input).isFirstChosen();
    }

    public int steps() {
        return lastSteps;
    }

    public boolean holds(int formula, int first, int second)
            throws IndexOutOfBoundsException, IllegalArgumentException, UnsupportedOperationException {
        needFormula(formula);
        needNumber(first, GREATEST_TOLD);
        needNumber(second, GREATEST_TOLD);
        needFit(formulas.isPlain(formula));
        return reckoned(formula, first, second);
    }

    public int search(int formula, int first)
            throws IndexOutOfBoundsException, IllegalArgumentException, UnsupportedOperationException,
            NoSuchElementException {
        needFormula(formula);
        needNumber(first, GREATEST_TOLD);
        needFit(formulas.isPlain(formula));
        for (int second = 0; second <= GREATEST_TOLD; second++) {
            if (reckoned(formula, first, second)) {
                return second;
            }
        }
        throw new NoSuchElementException("there is none");
    }

    // ---- figures

    public long checksum() {
        long sum = 7;
        for (int proof = 0; proof < proofs.size(); proof++) {
            sum = 31 * sum + proofs.formulaAt(proof);
            sum = 31 * sum + proofs.openAt(proof);
        }
        sum = 31 * sum + terms.size();
        return 31 * sum + formulas.size();
    }

    public float closedShare() throws ArithmeticException {
        int all = countProofs();
        int closed = 0;
        for (int proof = 0; proof < all; proof++) {
            closed += proofs.isClosed(proof) ? 1 : 0;
        }
        return all > 0 ? (float) closed / (float) all : 0;
    }

    public double meanDepth() throws ArithmeticException {
        int all = countProofs();
        int sum = 0;
        for (int proof = 0; proof < all; proof++) {
            sum += proofs.depthAt(proof);
        }
        return all > 0 ? (double) sum / (double) all : 0;
    }

    public boolean isSound() {
        for (int proof = 0; proof < proofs.size(); proof++) {
            if (proofs.isClosed(proof) && !isProofSound(proof)) {
                return false;
            }
        }
        return true;
    }

    // What a call needs of what it is told, and the exception if it is not so.

    private void needVariable(int variable) {
        if (variable < 0 || variable >= VARIABLES) {
            throw new IllegalArgumentException("there is no such variable");
        }
    }

    private void needLabel(int label) {
        if (label < 0 || label >= LABELS) {
            throw new IllegalArgumentException("there is no such label");
        }
    }

    private void needNumber(int number, int greatest) {
        if (number < 0 || number > greatest) {
            throw new IllegalArgumentException("a number is out of range");
        }
    }

    private void needWay(boolean isWay) {
        if (!isWay) {
            throw new IllegalArgumentException("there is no such way");
        }
    }

    private void needTerm(int term) {
        if (!terms.has(term)) {
            throw new IndexOutOfBoundsException("there is no such term");
        }
    }

    private void needFormula(int formula) {
        if (!formulas.has(formula)) {
            throw new IndexOutOfBoundsException("there is no such formula");
        }
    }

    private void needProof(int proof) {
        if (!proofs.has(proof)) {
            throw new IndexOutOfBoundsException("there is no such proof");
        }
    }

    private void needFit(boolean isFit) {
        if (!isFit) {
            throw new UnsupportedOperationException("it does not fit");
        }
    }

    private void needShort(char kind, int first, int second) {
        if (formulas.lengthOfNew(kind, first, second) > LONGEST) {
            throw new UnsupportedOperationException("it would be too long");
        }
    }

    /** Needs that a term may be put in place of a variable, and that what comes is not too long. */
    private void needPlace(int formula, int variable, int term) {
        if (formulas.wouldBind(formula, variable, term)) {
            throw new UnsupportedOperationException("a variable would be bound");
        }
        if (formulas.lengthWithTerm(formula, variable, term) > LONGEST) {
            throw new UnsupportedOperationException("it would be too long");
        }
    }

    private void needProofRoom() {
        if (proofs.size() >= MOST) {
            throw new IllegalStateException("there are 60 proofs");
        }
    }

    private int countProofs() {
        if (proofs.size() == 0) {
            throw new ArithmeticException("there are no proofs");
        }
        return proofs.size();
    }

    // Telling terms and formulas.

    private int tellTerm(int kind, int first, int second) {
        int term = terms.tell(kind, first, second);
        if (term == NONE) {
            throw new IllegalStateException("there are 60 terms");
        }
        return term;
    }

    private int tellMade(int kind, int term, int other) {
        needTerm(term);
        needTerm(other);
        if (terms.lengthOfNew(kind, term, other) > LONGEST) {
            throw new UnsupportedOperationException("it would be too long");
        }
        return tellTerm(kind, term, other);
    }

    private int tellCompared(char kind, int term, int other) {
        needTerm(term);
        needTerm(other);
        needShort(kind, term, other);
        return tellFormula(kind, term, other);
    }

    private int tellFormula(char kind, int first, int second) {
        int formula = formulas.tell(kind, first, second);
        if (formula == NONE) {
            throw new IllegalStateException("there are 60 formulas");
        }
        return formula;
    }

    private int tellWithTerm(int formula, int variable, int term) {
        int termsAhead = terms.size();
        int formulasAhead = formulas.size();
        return toldOrTakenBack(formulas.withTerm(formula, variable, term, true, 0), termsAhead, formulasAhead);
    }

    /** Tells that the formula is so, or that false follows from it. */
    private int tellDecided(int formula) {
        int termsAhead = terms.size();
        int formulasAhead = formulas.size();
        int zero = terms.tell(NUMBER, 0, 0);
        int one = terms.tell(NUMBER, 1, 0);
        int falsehood = formulas.tell('=', zero, one);
        int refuted = formulas.tell('>', formula, falsehood);
        return toldOrTakenBack(formulas.tell('|', formula, refuted), termsAhead, formulasAhead);
    }

    private int toldOrTakenBack(int formula, int termsAhead, int formulasAhead) {
        if (formula == NONE) {
            terms.takeBackTo(termsAhead);
            formulas.takeBackTo(formulasAhead);
            throw new IllegalStateException("there would be more than 60 terms, or formulas");
        }
        return formula;
    }

    // What a rule asks of its proofs.

    private void gatherOne(int proof, int closedLabel) {
        proofs.gatherNothing();
        proofs.gather(proof, closedLabel);
    }

    /** Gathers the open labels of two proofs, but for one closed in the second; false if they do not agree. */
    private boolean gatherTwo(int proof, int other, int closedLabel) {
        proofs.gatherNothing();
        return proofs.gather(proof, NONE) && proofs.gather(other, closedLabel);
    }

    private boolean isFact(int formula) {
        int first = formulas.partAt(formula, false);
        int second = formulas.partAt(formula, true);
        if (formulas.kindAt(formula) == '=') {
            return terms.multipliedOut().areEqual(first, second);
        }
        return formulas.kindAt(formula) == '<' && terms.multipliedOut().isLess(first, second);
    }

    private boolean isFalse(int formula) {
        return formulas.kindAt(formula) == '='
                && terms.isNumber(formulas.partAt(formula, false), 0)
                && terms.isNumber(formulas.partAt(formula, true), 1);
    }

    private boolean areCases(int proof, int first, int second, int label) {
        int formula = proofs.formulaAt(proof);
        return formulas.kindAt(formula) == '|'
                && proofs.formulaAt(first) == proofs.formulaAt(second)
                && proofs.mayHave(first, label, formulas.partAt(formula, false))
                && proofs.mayHave(second, label, formulas.partAt(formula, true))
                && gatherTwo(proof, first, label)
                && proofs.gather(second, label);
    }

    private boolean isRevealed(int proof, int other, int label) {
        int formula = proofs.formulaAt(proof);
        int variable = formulas.partAt(formula, false);
        return formulas.kindAt(formula) == 'E'
                && proofs.mayHave(other, label, formulas.partAt(formula, true))
                && !formulas.hasFree(proofs.formulaAt(other), variable)
                && !isFreeInLabels(other, variable, label)
                && gatherTwo(proof, other, label);
    }

    private boolean isInduction(int start, int step, int formula) {
        if (formulas.kindAt(formula) != 'A' || formulas.kindAt(step) != 'A') {
            return false;
        }
        int variable = formulas.partAt(formula, false);
        int body = formulas.partAt(formula, true);
        int following = formulas.partAt(step, true);
        int zero = terms.find(NUMBER, 0, 0);
        int next = terms.find(SUM, terms.find(VARIABLE, variable, 0), terms.find(NUMBER, 1, 0));
        return isWithTerm(start, body, variable, zero)
                && formulas.partAt(step, false) == variable
                && formulas.kindAt(following) == '>'
                && formulas.partAt(following, false) == body
                && isWithTerm(formulas.partAt(following, true), body, variable, next);
    }

    /** Whether a formula is the body with the term in place of the variable, none being told for it. */
    private boolean isWithTerm(int formula, int body, int variable, int term) {
        return !formulas.wouldBind(body, variable, term)
                && formulas.withTerm(body, variable, term, false, 0) == formula;
    }

    private boolean isFreeInLabels(int proof, int variable, int exceptLabel) {
        for (int label = 0; label < LABELS; label++) {
            if (label != exceptLabel && formulas.hasFree(proofs.labelAt(proof, label), variable)) {
                return true;
            }
        }
        return false;
    }

    // Runs.

    private Machine readyMachine() {
        if (machine == null) {
            machine = new Machine(formulas, proofs, reckoner);
        }
        return machine;
    }

    /** Evaluates a proof, and applies it to the input if it is not NONE. */
    private Machine evaluated(int proof, int input) {
        Machine ready = readyMachine();
        boolean isDone = ready.evaluate(proof, input);
        lastSteps = ready.stepsTaken();
        if (!isDone) {
            throw new UnsupportedOperationException("the run is refused");
        }
        return ready;
    }

    private boolean reckoned(int formula, int first, int second) {
        reckoner.setAll(0);
        reckoner.setVariable(0, first);
        reckoner.setVariable(1, second);
        int truth = reckoner.truthOf(formula);
        if (truth == NONE) {
            throw new UnsupportedOperationException("a number above 1000000 comes");
        }
        return truth == 1;
    }

    // The check of the row; what cannot be reckoned is not held against a proof.

    private boolean isProofSound(int proof) {
        int formula = proofs.formulaAt(proof);
        if (formulas.isPlain(formula)) {
            reckoner.setAll(0);
            return formulas.hasAnyFree(formula) || reckoner.truthOf(formula) != 0;
        }
        boolean isWithinAll = formulas.isAllOf(formula, 'E');
        int some = isWithinAll ? formulas.partAt(formula, true) : formula;
        if (formulas.kindAt(some) != 'E' || !formulas.isPlain(formulas.partAt(some, true))) {
            return true;
        }
        for (int input = 0; input < (isWithinAll ? INPUTS_CHECKED : 1); input++) {
            if (readyMachine().evaluate(proof, isWithinAll ? input : NONE)) {
                reckoner.setAll(0);
                reckoner.setVariable(isWithinAll ? formulas.partAt(formula, false) : NONE, input);
                reckoner.setVariable(formulas.partAt(some, false), readyMachine().numberGiven());
                if (reckoner.truthOf(formulas.partAt(some, true)) == 0) {
                    return false;
                }
            }
        }
        return true;
    }

    private static void unmark(boolean[] marks) {
        for (int i = 0; i < marks.length; i++) {
            marks[i] = false;
        }
    }

    /** Terms multiplied out: for each a row of unlike products, each by its code and the number in front of it. */
    private static final class Sums {
        private static final int MOST_PRODUCTS = 60;
        private static final int MOST_FACTORS = 6;

        /** Bits for how often a variable comes in a product: up to 6 times, so 3 do, and codes add up unmixed. */
        private static final int BITS = 3;
        private static final int TOO_GREAT = -1;

        private final int[] codes = new int[MOST * MOST_PRODUCTS];
        private final int[] fronts = new int[MOST * MOST_PRODUCTS];
        private final int[] sizes = new int[MOST];

        void becomeVariable(int row, int variable) {
            begin(row);
            add(row, 1 << (BITS * variable), 1);
        }

        void becomeNumber(int row, int value) {
            begin(row);
            if (value > 0) {
                add(row, 0, value);
            }
        }

        void becomeSum(int row, int first, int second) {
            begin(row);
            if (isTooGreat(first) || isTooGreat(second)) {
                giveUp(row);
                return;
            }
            addAll(row, first);
            addAll(row, second);
        }

        void becomeProduct(int row, int first, int second) {
            begin(row);
            if (isTooGreat(first) || isTooGreat(second)) {
                giveUp(row);
                return;
            }
            int from = first * MOST_PRODUCTS;
            int against = second * MOST_PRODUCTS;
            for (int i = from; i < from + sizes[first]; i++) {
                for (int k = against; k < against + sizes[second]; k++) {
                    if (factors(codes[i]) + factors(codes[k]) > MOST_FACTORS) {
                        giveUp(row);
                    } else {
                        add(row, codes[i] + codes[k], (long) fronts[i] * fronts[k]);
                    }
                }
            }
        }

        boolean areEqual(int first, int second) {
            if (isTooGreat(first) || isTooGreat(second) || sizes[first] != sizes[second]) {
                return false;
            }
            int from = first * MOST_PRODUCTS;
            for (int i = from; i < from + sizes[first]; i++) {
                if (frontOf(second, codes[i]) != fronts[i]) {
                    return false;
                }
            }
            return true;
        }

        boolean isLess(int first, int second) {
            if (isTooGreat(first) || isTooGreat(second)) {
                return false;
            }
            int from = first * MOST_PRODUCTS;
            for (int i = from; i < from + sizes[first]; i++) {
                if (frontOf(second, codes[i]) < fronts[i]) {
                    return false;
                }
            }
            return frontOf(second, 0) > frontOf(first, 0);
        }

        private boolean isTooGreat(int row) {
            return row < 0 || row >= MOST || sizes[row] == TOO_GREAT;
        }

        private void begin(int row) {
            if (row >= 0 && row < MOST) {
                sizes[row] = 0;
            }
        }

        private void giveUp(int row) {
            if (row >= 0 && row < MOST) {
                sizes[row] = TOO_GREAT;
            }
        }

        private void addAll(int row, int other) {
            int from = other * MOST_PRODUCTS;
            for (int i = from; i < from + sizes[other]; i++) {
                add(row, codes[i], fronts[i]);
            }
        }

        private void add(int row, int code, long front) {
            if (isTooGreat(row)) {
                return;
            }
            int place = placeOf(row, code);
            int size = sizes[row];
            boolean isNew = place == NONE;
            if (isNew && size >= MOST_PRODUCTS) {
                giveUp(row);
                return;
            }
            int at = isNew ? row * MOST_PRODUCTS + size : place;
            long sum = isNew ? front : fronts[at] + front;
            if (sum > GREATEST) {
                giveUp(row);
                return;
            }
            codes[at] = code;
            fronts[at] = (int) sum;
            sizes[row] = isNew ? size + 1 : size;
        }

        private int frontOf(int row, int code) {
            int place = placeOf(row, code);
            return place == NONE ? 0 : fronts[place];
        }

        private int placeOf(int row, int code) {
            if (row < 0 || row >= MOST) {
                return NONE;
            }
            int from = row * MOST_PRODUCTS;
            for (int i = from; i < from + sizes[row]; i++) {
                if (codes[i] == code) {
                    return i;
                }
            }
            return NONE;
        }

        private static int factors(int code) {
            int sum = 0;
            for (int variable = 0; variable < VARIABLES; variable++) {
                sum += (code >> (BITS * variable)) & ((1 << BITS) - 1);
            }
            return sum;
        }
    }

    /** The terms, each of a kind and two parts: a variable or a number is its own first one. */
    private static final class Terms {
        private final int[] kinds = new int[MOST];
        private final int[] firsts = new int[MOST];
        private final int[] seconds = new int[MOST];
        private final int[] lengths = new int[MOST];

        /** How often each variable comes in each term. */
        private final int[] counts = new int[MOST * VARIABLES];
        private final Sums sums = new Sums();

        /** How many terms have been multiplied out; it waits until it is asked for. */
        private int multiplied = 0;
        private int told = 0;

        int size() {
            return told;
        }

        boolean has(int term) {
            return term >= 0 && term < told;
        }

        int kindAt(int term) {
            return term >= 0 && term < told ? kinds[term] : NONE;
        }

        int firstAt(int term) {
            return term >= 0 && term < told ? firsts[term] : NONE;
        }

        int secondAt(int term) {
            return term >= 0 && term < told ? seconds[term] : NONE;
        }

        int lengthAt(int term) {
            return term >= 0 && term < told ? lengths[term] : 0;
        }

        boolean isNumber(int term, int value) {
            return kindAt(term) == NUMBER && firstAt(term) == value;
        }

        int countIn(int term, int variable) {
            boolean isThere = has(term) && variable >= 0 && variable < VARIABLES;
            return isThere ? counts[term * VARIABLES + variable] : 0;
        }

        int lengthOfNew(int kind, int first, int second) {
            return kind >= SUM ? 1 + lengthAt(first) + lengthAt(second) : 1;
        }

        int find(int kind, int first, int second) {
            for (int term = 0; term < told; term++) {
                if (kinds[term] == kind && firsts[term] == first && seconds[term] == second) {
                    return term;
                }
            }
            return NONE;
        }

        /** The number of the term, NONE if a part is not there or there is no room. */
        int tell(int kind, int first, int second) {
            int found = find(kind, first, second);
            if (found != NONE || told >= MOST || kind >= SUM && !(has(first) && has(second))) {
                return found;
            }
            int term = told;
            kinds[term] = kind;
            firsts[term] = first;
            seconds[term] = second;
            lengths[term] = lengthOfNew(kind, first, second);
            for (int variable = 0; variable < VARIABLES; variable++) {
                counts[term * VARIABLES + variable] = kind >= SUM
                        ? countIn(first, variable) + countIn(second, variable)
                        : (kind == VARIABLE && first == variable ? 1 : 0);
            }
            told++;
            return term;
        }

        /** Forgets the terms from a number on. */
        void takeBackTo(int size) {
            told = size >= 0 && size < told ? size : told;
            multiplied = Math.min(multiplied, told);
        }

        Sums multipliedOut() {
            for (int term = multiplied; term < told; term++) {
                multiplyOut(term);
            }
            multiplied = told;
            return sums;
        }

        /** A term with another one in place of a variable; NONE if it is not there, and may not or cannot be told. */
        private int withTerm(int term, int variable, int other, boolean mayTell, int depth) {
            if (!has(term) || depth > MOST) {
                return NONE;
            }
            if (countIn(term, variable) == 0) {
                return term;
            }
            if (kinds[term] == VARIABLE) {
                return other;
            }
            int first = withTerm(firsts[term], variable, other, mayTell, depth + 1);
            int second = first == NONE ? NONE : withTerm(seconds[term], variable, other, mayTell, depth + 1);
            if (second == NONE) {
                return NONE;
            }
            return mayTell ? tell(kinds[term], first, second) : find(kinds[term], first, second);
        }

        private void multiplyOut(int term) {
            switch (kinds[term]) {
                case VARIABLE:
                    sums.becomeVariable(term, firsts[term]);
                    break;
                case NUMBER:
                    sums.becomeNumber(term, firsts[term]);
                    break;
                case SUM:
                    sums.becomeSum(term, firsts[term], seconds[term]);
                    break;
                default:
                    sums.becomeProduct(term, firsts[term], seconds[term]);
                    break;
            }
        }
    }

    /** The formulas, each of a kind and two parts: terms, formulas, or a variable and a formula. */
    private static final class Formulas {
        private final Terms terms;
        private final char[] kinds = new char[MOST];
        private final int[] firsts = new int[MOST];
        private final int[] seconds = new int[MOST];
        private final int[] lengths = new int[MOST];
        private final boolean[] plains = new boolean[MOST];

        /** How often each variable comes free in each formula. */
        private final int[] counts = new int[MOST * VARIABLES];

        /** Formulas that a walk from a formula to its parts has come to. */
        private final boolean[] reached = new boolean[MOST];
        private int told = 0;

        Formulas(Terms terms) {
            this.terms = terms;
        }

        int size() {
            return told;
        }

        boolean has(int formula) {
            return formula >= 0 && formula < told;
        }

        /** The kind, a blank if there is no such formula. */
        char kindAt(int formula) {
            return formula >= 0 && formula < told ? kinds[formula] : ' ';
        }

        int partAt(int formula, boolean isSecond) {
            if (formula < 0 || formula >= told) {
                return NONE;
            }
            return isSecond ? seconds[formula] : firsts[formula];
        }

        int lengthAt(int formula) {
            return has(formula) ? lengths[formula] : 0;
        }

        boolean isPlain(int formula) {
            return has(formula) && plains[formula];
        }

        /** Whether a formula is all of a formula of a kind. */
        boolean isAllOf(int formula, char kind) {
            return kindAt(formula) == 'A' && kindAt(partAt(formula, true)) == kind;
        }

        boolean hasFree(int formula, int variable) {
            return countIn(formula, variable) > 0;
        }

        boolean hasAnyFree(int formula) {
            for (int variable = 0; variable < VARIABLES; variable++) {
                if (hasFree(formula, variable)) {
                    return true;
                }
            }
            return false;
        }

        int lengthOfNew(char kind, int first, int second) {
            if (isComparison(kind)) {
                return 1 + terms.lengthAt(first) + terms.lengthAt(second);
            }
            return 1 + (isBinder(kind) ? 0 : lengthAt(first)) + lengthAt(second);
        }

        int lengthWithTerm(int formula, int variable, int term) {
            return lengthAt(formula) + countIn(formula, variable) * (terms.lengthAt(term) - 1);
        }

        int find(char kind, int first, int second) {
            for (int formula = 0; formula < told; formula++) {
                if (kinds[formula] == kind && firsts[formula] == first && seconds[formula] == second) {
                    return formula;
                }
            }
            return NONE;
        }

        /** The number of the formula, NONE if a part is not there or there is no room. */
        int tell(char kind, int first, int second) {
            int found = find(kind, first, second);
            if (found != NONE || told >= MOST || !hasParts(kind, first, second)) {
                return found;
            }
            int formula = told;
            kinds[formula] = kind;
            firsts[formula] = first;
            seconds[formula] = second;
            lengths[formula] = lengthOfNew(kind, first, second);
            plains[formula] = isComparison(kind) || !isBinder(kind) && isPlain(first) && isPlain(second);
            for (int variable = 0; variable < VARIABLES; variable++) {
                counts[formula * VARIABLES + variable] = countOfNew(kind, first, second, variable);
            }
            told++;
            return formula;
        }

        /** Forgets the formulas from a number on. */
        void takeBackTo(int size) {
            told = size >= 0 && size < told ? size : told;
        }

        /** Whether a variable of the term would be bound, if it came in place of the variable. */
        boolean wouldBind(int formula, int variable, int term) {
            unmark(reached);
            reach(formula);
            for (int at = told - 1; at >= 0; at--) {
                if (reached[at] && hasFree(at, variable) && !isComparison(kinds[at])) {
                    boolean isBinding = isBinder(kinds[at]);
                    if (isBinding && terms.countIn(term, firsts[at]) > 0) {
                        return true;
                    }
                    reach(isBinding ? NONE : firsts[at]);
                    reach(seconds[at]);
                }
            }
            return false;
        }

        /** The formula with a term in place of a variable; NONE if it is not there, and may not or cannot be told. */
        private int withTerm(int formula, int variable, int term, boolean mayTell, int depth) {
            if (!has(formula) || depth > MOST) {
                return NONE;
            }
            if (countIn(formula, variable) == 0) {
                return formula;
            }
            char kind = kinds[formula];
            int first = firsts[formula];
            int second = seconds[formula];
            if (isComparison(kind)) {
                first = terms.withTerm(first, variable, term, mayTell, 0);
                second = first == NONE ? NONE : terms.withTerm(second, variable, term, mayTell, 0);
            } else {
                first = isBinder(kind) ? first : withTerm(first, variable, term, mayTell, depth + 1);
                second = first == NONE ? NONE : withTerm(second, variable, term, mayTell, depth + 1);
            }
            if (second == NONE) {
                return NONE;
            }
            return mayTell ? tell(kind, first, second) : find(kind, first, second);
        }

        private static boolean isComparison(char kind) {
            return kind == '=' || kind == '<';
        }

        private static boolean isBinder(char kind) {
            return kind == 'A' || kind == 'E';
        }

        private boolean hasParts(char kind, int first, int second) {
            if (isComparison(kind)) {
                return terms.has(first) && terms.has(second);
            }
            return (isBinder(kind) || has(first)) && has(second);
        }

        private int countIn(int formula, int variable) {
            boolean isThere = has(formula) && variable >= 0 && variable < VARIABLES;
            return isThere ? counts[formula * VARIABLES + variable] : 0;
        }

        private int countOfNew(char kind, int first, int second, int variable) {
            if (isComparison(kind)) {
                return terms.countIn(first, variable) + terms.countIn(second, variable);
            }
            if (isBinder(kind)) {
                return first == variable ? 0 : countIn(second, variable);
            }
            return countIn(first, variable) + countIn(second, variable);
        }

        private void reach(int formula) {
            if (has(formula)) {
                reached[formula] = true;
            }
        }
    }

    /** The proofs, each by a rule, of a formula, from up to three proofs and its open labels. */
    private static final class Proofs {
        private final int[] rules = new int[MOST];
        private final int[] formulas = new int[MOST];

        /** The label, the variable, the term or the side that a rule was told. */
        private final int[] details = new int[MOST];
        private final int[] firsts = new int[MOST];
        private final int[] seconds = new int[MOST];
        private final int[] thirds = new int[MOST];
        private final int[] depths = new int[MOST];
        private final int[] opens = new int[MOST];
        private final int[] labels = new int[MOST * LABELS];

        /** The open labels of the proof to come, and the formulas that they have. */
        private int gatheredOpen = 0;
        private final int[] gathered = new int[LABELS];
        private final boolean[] reached = new boolean[MOST];
        private int told = 0;

        int size() {
            return told;
        }

        boolean has(int proof) {
            return proof >= 0 && proof < told;
        }

        int ruleAt(int proof) {
            return proof >= 0 && proof < told ? rules[proof] : NONE;
        }

        int formulaAt(int proof) {
            return proof >= 0 && proof < told ? formulas[proof] : NONE;
        }

        int detailAt(int proof) {
            return proof >= 0 && proof < told ? details[proof] : NONE;
        }

        int firstAt(int proof) {
            return proof >= 0 && proof < told ? firsts[proof] : NONE;
        }

        int secondAt(int proof) {
            return proof >= 0 && proof < told ? seconds[proof] : NONE;
        }

        int thirdAt(int proof) {
            return proof >= 0 && proof < told ? thirds[proof] : NONE;
        }

        int depthAt(int proof) {
            return has(proof) ? depths[proof] : 0;
        }

        int openAt(int proof) {
            return has(proof) ? opens[proof] : 0;
        }

        boolean isClosed(int proof) {
            return openAt(proof) == 0;
        }

        /** The formula of a label, NONE if it is not open. */
        int labelAt(int proof, int label) {
            boolean isOpen = label >= 0 && label < LABELS && (openAt(proof) >> label & 1) == 1;
            return isOpen && has(proof) ? labels[proof * LABELS + label] : NONE;
        }

        /** Whether a label has the formula, or is not open. */
        boolean mayHave(int proof, int label, int formula) {
            int had = labelAt(proof, label);
            return had == NONE || had == formula;
        }

        void gatherNothing() {
            gatheredOpen = 0;
        }

        /** Opens a label of the proof to come; false if it is open with another formula. */
        boolean gatherLabel(int label, int formula) {
            if (label < 0 || label >= LABELS) {
                return false;
            }
            boolean isOpen = (gatheredOpen >> label & 1) == 1;
            if (isOpen && gathered[label] != formula) {
                return false;
            }
            gatheredOpen |= 1 << label;
            gathered[label] = formula;
            return true;
        }

        /** Opens the labels that are open in a proof, but for one that is closed; false if they do not agree. */
        boolean gather(int proof, int closedLabel) {
            for (int label = 0; label < LABELS; label++) {
                int formula = labelAt(proof, label);
                if (label != closedLabel && formula != NONE && !gatherLabel(label, formula)) {
                    return false;
                }
            }
            return true;
        }

        /** Tells a proof from the labels that have been gathered; NONE if there is no room. */
        int tell(int rule, int formula, int detail, int first, int second, int third) {
            if (told >= MOST) {
                return NONE;
            }
            int proof = told;
            rules[proof] = rule;
            formulas[proof] = formula;
            details[proof] = detail;
            firsts[proof] = first;
            seconds[proof] = second;
            thirds[proof] = third;
            depths[proof] = 1 + Math.max(depthAt(first), Math.max(depthAt(second), depthAt(third)));
            opens[proof] = gatheredOpen;
            System.arraycopy(gathered, 0, labels, proof * LABELS, LABELS);
            told++;
            return proof;
        }

        /** Counts the proofs that a proof uses, or only the detours among them. */
        int countUsed(int proof, boolean isOfDetours) {
            unmark(reached);
            reach(proof);
            int count = 0;
            for (int at = told - 1; at >= 0; at--) {
                if (reached[at]) {
                    reach(firsts[at]);
                    reach(seconds[at]);
                    reach(thirds[at]);
                    count += !isOfDetours || isDetour(at) ? 1 : 0;
                }
            }
            return count;
        }

        private void reach(int proof) {
            if (has(proof)) {
                reached[proof] = true;
            }
        }

        private boolean isDetour(int proof) {
            int puttingTogether = ruleAt(firstAt(proof));
            switch (ruleAt(proof)) {
                case PART:
                    return puttingTogether == BOTH;
                case CASES:
                    return puttingTogether == EITHER;
                case APPLY:
                    return puttingTogether == SUPPOSE;
                case SPECIALIZE:
                    return puttingTogether == GENERALIZE;
                case REVEAL:
                    return puttingTogether == EXHIBIT;
                default:
                    return false;
            }
        }
    }

    /** What terms and plain formulas come to, the variables being given. */
    private static final class Reckoner {
        private final Terms terms;
        private final Formulas formulas;
        private final int[] variables = new int[VARIABLES];
        private final boolean[] neededTerms = new boolean[MOST];
        private final int[] amounts = new int[MOST];
        private final boolean[] neededFormulas = new boolean[MOST];
        private final boolean[] truths = new boolean[MOST];

        Reckoner(Terms terms, Formulas formulas) {
            this.terms = terms;
            this.formulas = formulas;
        }

        void setAll(int amount) {
            Arrays.fill(variables, amount);
        }

        void setVariable(int variable, int amount) {
            if (variable >= 0 && variable < VARIABLES) {
                variables[variable] = amount;
            }
        }

        /** The number that a term has, NONE if one above 1000000 comes. */
        int amountOf(int term) {
            unmark(neededTerms);
            need(neededTerms, term);
            return reckonTerms() ? amountAt(term) : NONE;
        }

        /** 1 if a plain formula is true, 0 if not, NONE if a number above 1000000 comes in any of its terms. */
        int truthOf(int formula) {
            unmark(neededTerms);
            unmark(neededFormulas);
            need(neededFormulas, formula);
            for (int at = MOST - 1; at >= 0; at--) {
                if (neededFormulas[at]) {
                    char kind = formulas.kindAt(at);
                    boolean[] parts = kind == '=' || kind == '<' ? neededTerms : neededFormulas;
                    need(parts, formulas.partAt(at, false));
                    need(parts, formulas.partAt(at, true));
                }
            }
            if (!reckonTerms()) {
                return NONE;
            }
            for (int at = 0; at < MOST; at++) {
                truths[at] = neededFormulas[at] && isTrue(at);
            }
            return truthAt(formula) ? 1 : 0;
        }

        private static void need(boolean[] marks, int index) {
            if (index >= 0 && index < MOST) {
                marks[index] = true;
            }
        }

        private int amountAt(int term) {
            return term >= 0 && term < MOST ? amounts[term] : 0;
        }

        private boolean truthAt(int formula) {
            return formula >= 0 && formula < MOST && truths[formula];
        }

        /** Reckons the terms that are needed, their parts ahead of them; false if a number is too great. */
        private boolean reckonTerms() {
            for (int term = MOST - 1; term >= 0; term--) {
                if (neededTerms[term] && terms.kindAt(term) >= SUM) {
                    need(neededTerms, terms.firstAt(term));
                    need(neededTerms, terms.secondAt(term));
                }
            }
            for (int term = 0; term < MOST; term++) {
                if (neededTerms[term]) {
                    int first = terms.firstAt(term);
                    int second = terms.secondAt(term);
                    long amount = reckonedOf(terms.kindAt(term), first, amountAt(first), amountAt(second));
                    if (amount > GREATEST) {
                        return false;
                    }
                    amounts[term] = (int) amount;
                }
            }
            return true;
        }

        private long reckonedOf(int kind, int first, long amount, long other) {
            switch (kind) {
                case VARIABLE:
                    return first >= 0 && first < VARIABLES ? variables[first] : 0;
                case NUMBER:
                    return first;
                case SUM:
                    return amount + other;
                default:
                    return amount * other;
            }
        }

        private boolean isTrue(int formula) {
            int first = formulas.partAt(formula, false);
            int second = formulas.partAt(formula, true);
            char kind = formulas.kindAt(formula);
            if (kind == '=') {
                return amountAt(first) == amountAt(second);
            }
            if (kind == '<') {
                return amountAt(first) < amountAt(second);
            }
            if (kind == '&') {
                return truthAt(first) && truthAt(second);
            }
            if (kind == '|') {
                return truthAt(first) || truthAt(second);
            }
            return !truthAt(first) || truthAt(second);
        }
    }

    /** The values of a run, each of a kind and two parts, used again by the next run. */
    private static final class Values {
        private static final int NOTHING = 0;
        private static final int PAIR = 1;
        private static final int FIRST = 2;
        private static final int SECOND = 3;
        private static final int SOME = 4;

        /** A function whose body is evaluated: a proof by suppose() or generalize(), and what it was made in. */
        private static final int CLOSURE = 5;
        private static final int INDUCTION = 6;

        /** What a plain formula gives of itself, reckoned only where it is looked into; a formula, and a setting. */
        private static final int DECIDED = 7;

        /** What comes first of a formula. */
        private static final int FALLEN = 8;

        /** A step makes up to three values. */
        private static final int MOST_VALUES = 4096;

        private final int[] kinds = new int[MOST_VALUES];
        private final int[] firsts = new int[MOST_VALUES];
        private final int[] seconds = new int[MOST_VALUES];
        private int made = 0;

        /** Leaves the value 0 alone, which is nothing. */
        void clear() {
            made = 1;
        }

        int kindAt(int value) {
            return value >= 0 && value < made ? kinds[value] : NOTHING;
        }

        int firstAt(int value) {
            return value >= 0 && value < made ? firsts[value] : 0;
        }

        int secondAt(int value) {
            return value >= 0 && value < made ? seconds[value] : 0;
        }

        /** The new value, NONE if there is no room. */
        int make(int kind, int first, int second) {
            if (made < 0 || made >= MOST_VALUES) {
                return NONE;
            }
            kinds[made] = kind;
            firsts[made] = first;
            seconds[made] = second;
            made++;
            return made - 1;
        }
    }

    /** What variables and labels have: each setting gives one of them, and has the others of an outer one. */
    private static final class Settings {
        /** The slot of the label 0; the variables come ahead of it. */
        private static final int LABEL_SLOT = VARIABLES;

        /** A step makes up to four settings. */
        private static final int MOST_SETTINGS = 4096;

        private final int[] slots = new int[MOST_SETTINGS];
        private final int[] contents = new int[MOST_SETTINGS];
        private final int[] outers = new int[MOST_SETTINGS];
        private int made = 0;

        /** Leaves the setting 0 alone, in which all have 0, which is nothing too. */
        void clear() {
            made = 1;
        }

        /** The new setting, NONE if there is no room. */
        int make(int outer, int slot, int content) {
            if (outer < 0 || outer >= made || made >= MOST_SETTINGS) {
                return NONE;
            }
            slots[made] = slot;
            contents[made] = content;
            outers[made] = outer;
            made++;
            return made - 1;
        }

        int contentOf(int setting, int slot) {
            int at = setting;
            for (int turn = 0; turn < MOST_SETTINGS && at > 0 && at < made; turn++) {
                if (slots[at] == slot) {
                    return contents[at];
                }
                at = outers[at];
            }
            return 0;
        }
    }

    /**
     * Evaluates proofs. The rules that are evaluated one within the other stand on a stack of its own, so that no
     * run is as deep as the calls of the Java machine; a value that is -1 (no room) counts as a refusal.
     */
    private static final class Machine {
        private static final int MOST_STEPS = 1000;
        private static final int MOST_DEPTH = 100;

        /** 100 rules, and room for the loops between them: a step that is an induction itself is twice as long. */
        private static final int MOST_FRAMES = 1000;

        /** Far above what 1000 steps need. */
        private static final int MOST_TURNS = 1000000;

        private final Formulas formulas;
        private final Proofs proofs;
        private final Reckoner reckoner;
        private final Values values = new Values();
        private final Settings settings = new Settings();
        private final int[] tasks = new int[MOST_FRAMES];
        private final int[] frameProofs = new int[MOST_FRAMES];
        private final int[] frameSettings = new int[MOST_FRAMES];
        private final int[] depths = new int[MOST_FRAMES];

        /** How many values of its parts have come to a frame. */
        private final int[] stages = new int[MOST_FRAMES];

        /** A value or a number that a frame keeps till later. */
        private final int[] kept = new int[MOST_FRAMES];

        /** How far a loop has come, and how far it goes. */
        private final int[] counts = new int[MOST_FRAMES];
        private final int[] ends = new int[MOST_FRAMES];
        private int top = NONE;
        private int taken = 0;
        private int result = Values.NOTHING;

        Machine(Formulas formulas, Proofs proofs, Reckoner reckoner) {
            this.formulas = formulas;
            this.proofs = proofs;
            this.reckoner = reckoner;
        }

        int stepsTaken() {
            return taken;
        }

        /** Evaluates a proof, and applies it to the input if it is not NONE; false if the run is refused. */
        boolean evaluate(int proof, int input) {
            top = NONE;
            taken = 0;
            values.clear();
            settings.clear();
            boolean isGoing = enter(proof, 0);
            boolean isToApply = input != NONE;
            for (int turn = 0; isGoing && (top >= 0 || isToApply) && turn < MOST_TURNS; turn++) {
                if (top >= 0) {
                    isGoing = advance(top);
                } else {
                    isToApply = false;
                    isGoing = call(result, input);
                }
            }
            return isGoing && top < 0 && !isToApply;
        }

        /** The number of the last run's value, which is of some. */
        int numberGiven() {
            return values.kindAt(result) == Values.SOME ? values.firstAt(result) : 0;
        }

        /** Which one the value that came last chooses, which is of one or the other. */
        boolean isFirstChosen() {
            int kind = values.kindAt(result);
            if (kind != Values.DECIDED) {
                return kind != Values.SECOND;
            }
            load(values.secondAt(result));
            return reckoner.truthOf(formulas.partAt(values.firstAt(result), false)) == 1;
        }

        /** Takes a frame, the top one, one stage on; false if the run is refused. */
        private boolean advance(int frame) {
            if (frame < 0 || frame >= MOST_FRAMES) {
                return false;
            }
            int stage = stages[frame];
            int proof = frameProofs[frame];
            int setting = frameSettings[frame];
            stages[frame] = stage + 1;
            switch (tasks[frame]) {
                case ASSUME:
                    return leave(settings.contentOf(setting, Settings.LABEL_SLOT + proofs.detailAt(proof)));
                case BOTH:
                    return advanceBoth(frame, stage);
                case PART:
                case EITHER:
                    return stage == 0 ? enter(proofs.firstAt(proof), setting) : leave(sided(proof));
                case CASES:
                    return stage == 1 ? enterCase(frame, isFirstChosen()) : enterFirstOrLeave(frame, stage);
                case SUPPOSE:
                case GENERALIZE:
                    return leave(values.make(Values.CLOSURE, proof, setting));
                case INDUCT:
                    return leave(values.make(Values.INDUCTION, proof, setting));
                case APPLY:
                    return advanceApply(frame, stage);
                case SPECIALIZE:
                    return stage == 1 ? callWithTerm(frame) : enterFirstOrLeave(frame, stage);
                case EXHIBIT:
                    return advanceExhibit(frame, stage);
                case REVEAL:
                    return stage == 1 ? enterRevealed(frame) : enterFirstOrLeave(frame, stage);
                case REWRITE:
                    return stage == 0 ? enter(proofs.secondAt(proof), setting) : leave(result);
                case DECIDE:
                    return decided(frame);
                case ABSURD:
                    return leave(values.make(Values.FALLEN, proofs.formulaAt(proof), 0));
                case LOOP:
                    return advanceLoop(frame, stage);
                default:
                    return leave(Values.NOTHING);
            }
        }

        /** Begins to evaluate a proof; false if the run is refused. */
        private boolean enter(int proof, int setting) {
            int depth = top >= 0 && top < MOST_FRAMES ? depths[top] + 1 : 1;
            taken++;
            if (taken > MOST_STEPS || depth > MOST_DEPTH || !proofs.has(proof)) {
                return false;
            }
            return push(proofs.ruleAt(proof), proof, setting, depth);
        }

        private boolean push(int task, int proof, int setting, int depth) {
            int frame = top + 1;
            if (setting < 0 || frame < 0 || frame >= MOST_FRAMES) {
                return false;
            }
            tasks[frame] = task;
            frameProofs[frame] = proof;
            frameSettings[frame] = setting;
            depths[frame] = depth;
            stages[frame] = 0;
            kept[frame] = Values.NOTHING;
            counts[frame] = 0;
            ends[frame] = 0;
            top = frame;
            return true;
        }

        /** Ends the top frame with a value. */
        private boolean leave(int value) {
            if (value < 0 || top < 0) {
                return false;
            }
            result = value;
            top--;
            return true;
        }

        private boolean enterFirstOrLeave(int frame, int stage) {
            return stage == 0 ? enter(proofs.firstAt(frameProofs[frame]), frameSettings[frame]) : leave(result);
        }

        private boolean advanceBoth(int frame, int stage) {
            if (stage == 0) {
                return enter(proofs.firstAt(frameProofs[frame]), frameSettings[frame]);
            }
            if (stage == 1) {
                kept[frame] = result;
                return enter(proofs.secondAt(frameProofs[frame]), frameSettings[frame]);
            }
            return leave(values.make(Values.PAIR, kept[frame], result));
        }

        private boolean advanceApply(int frame, int stage) {
            if (stage == 0) {
                return enter(proofs.firstAt(frameProofs[frame]), frameSettings[frame]);
            }
            if (stage == 1) {
                kept[frame] = result;
                return enter(proofs.secondAt(frameProofs[frame]), frameSettings[frame]);
            }
            return stage == 2 ? call(kept[frame], result) : leave(result);
        }

        private boolean advanceExhibit(int frame, int stage) {
            if (stage > 0) {
                return leave(values.make(Values.SOME, kept[frame], result));
            }
            load(frameSettings[frame]);
            kept[frame] = reckoner.amountOf(proofs.detailAt(frameProofs[frame]));
            return kept[frame] != NONE && enter(proofs.firstAt(frameProofs[frame]), frameSettings[frame]);
        }

        private boolean callWithTerm(int frame) {
            load(frameSettings[frame]);
            int amount = reckoner.amountOf(proofs.detailAt(frameProofs[frame]));
            return amount != NONE && call(result, amount);
        }

        private boolean enterCase(int frame, boolean isFirst) {
            int proof = frameProofs[frame];
            int slot = Settings.LABEL_SLOT + proofs.detailAt(proof);
            int inner = settings.make(frameSettings[frame], slot, partOf(result, !isFirst));
            return enter(isFirst ? proofs.secondAt(proof) : proofs.thirdAt(proof), inner);
        }

        private boolean enterRevealed(int frame) {
            int proof = frameProofs[frame];
            int variable = formulas.partAt(proofs.formulaAt(proofs.firstAt(proof)), false);
            int slot = Settings.LABEL_SLOT + proofs.detailAt(proof);
            int outer = settings.make(frameSettings[frame], variable, numberGiven());
            return enter(proofs.secondAt(proof), settings.make(outer, slot, partOf(result, true)));
        }

        /** The formula is reckoned at once, since the run is refused here if a number is too great. */
        private boolean decided(int frame) {
            int formula = proofs.formulaAt(frameProofs[frame]);
            load(frameSettings[frame]);
            return reckoner.truthOf(formula) != NONE
                    && leave(values.make(Values.DECIDED, formula, frameSettings[frame]));
        }

        /** A half of the value that came, or the choice that it becomes. */
        private int sided(int proof) {
            boolean isSide = proofs.detailAt(proof) == 1;
            if (proofs.ruleAt(proof) == PART) {
                return partOf(result, isSide);
            }
            return values.make(isSide ? Values.FIRST : Values.SECOND, result, 0);
        }

        /** A stage of a loop: the first proof, then for each number the second one, applied to it, and to the value. */
        private boolean advanceLoop(int frame, int stage) {
            int proof = frameProofs[frame];
            switch (stage) {
                case 0:
                    return enter(proofs.firstAt(proof), frameSettings[frame]);
                case 1:
                    kept[frame] = result;
                    return counts[frame] < ends[frame]
                            ? enter(proofs.secondAt(proof), frameSettings[frame]) : leave(result);
                case 2:
                    return call(result, counts[frame]);
                default:
                    stages[frame] = 1;
                    counts[frame]++;
                    return call(result, kept[frame]);
            }
        }

        /** Applies a function to a number or a value; what comes is the result, at once or when its body ends. */
        private boolean call(int function, int argument) {
            int kind = values.kindAt(function);
            int proof = values.firstAt(function);
            int setting = values.secondAt(function);
            if (kind == Values.INDUCTION) {
                return pushLoop(proof, setting, argument);
            }
            if (kind == Values.CLOSURE) {
                boolean isOfLabel = proofs.ruleAt(proof) == SUPPOSE;
                int slot = proofs.detailAt(proof) + (isOfLabel ? Settings.LABEL_SLOT : 0);
                return enter(proofs.firstAt(proof), settings.make(setting, slot, argument));
            }
            result = partOf(function, true);
            return result >= 0;
        }

        /** A loop is no rule, so its parts are as deep as if the rule that applies it evaluated them. */
        private boolean pushLoop(int proof, int setting, int end) {
            int depth = top >= 0 && top < MOST_FRAMES ? depths[top] : 0;
            if (!push(LOOP, proof, setting, depth)) {
                return false;
            }
            ends[top] = end;
            return true;
        }

        /** What a value is made of: of a formula that stands for its value, what its part gives. */
        private int partOf(int value, boolean isSecond) {
            int kind = values.kindAt(value);
            switch (kind) {
                case Values.PAIR:
                    return isSecond ? values.secondAt(value) : values.firstAt(value);
                case Values.FIRST:
                case Values.SECOND:
                    return values.firstAt(value);
                case Values.SOME:
                    return values.secondAt(value);
                case Values.DECIDED:
                case Values.FALLEN:
                    return values.make(kind, formulas.partAt(values.firstAt(value), isSecond), values.secondAt(value));
                default:
                    return Values.NOTHING;
            }
        }

        /** Sets the variables to what they have in a setting. */
        private void load(int setting) {
            for (int variable = 0; variable < VARIABLES; variable++) {
                reckoner.setVariable(variable, settings.contentOf(setting, variable));
            }
        }
    }
}
