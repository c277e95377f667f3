/**
 * Promises 2 to 42: each exception that the document names, in rows that have room and in rows that are full of terms,
 * of formulas, of proofs or of all; if several apply, the first one named; and a refused call changes nothing.
 */
public final class RefusedTest {
    private static final String INDEX = "throws.IndexOutOfBoundsException";
    private static final String ARGUMENT = "throws.IllegalArgumentException";
    private static final String UNSUPPORTED = "throws.UnsupportedOperationException";
    private static final String STATE = "throws.IllegalStateException";
    private static final String ELEMENT = "throws.NoSuchElementException";

    /** What a row may be full of: terms, formulas, proofs. */
    private static final String[] FULL = {"", "t", "f", "p", "tfp"};
    private static final int[] NO_NUMBER = Sample.NO_NUMBER;
    private static final int[] NO_LABEL = Sample.NO_LABEL;
    private static final int[] NO_INPUT = {-1, 31, Integer.MIN_VALUE, Integer.MAX_VALUE};
    private static final int[] NO_TOLD = {-1, 100, Integer.MIN_VALUE, Integer.MAX_VALUE};

    private interface Call {
        Object on(Sample s, WitnessRow row);
    }

    private interface CallOf {
        Object on(Sample s, WitnessRow row, int wrong);
    }

    private static Sample sample(String full) {
        Sample s = new Sample();
        if (full.contains("t")) {
            Sample.fillTerms(s.row, Sample.MOST);
        }
        if (full.contains("f")) {
            Sample.fillFormulas(s.row, Sample.MOST);
        }
        if (full.contains("p")) {
            Sample.fillProofs(s.row, Sample.MOST);
        }
        return s;
    }

    /** A call that is refused, whatever the row is full of. */
    private static void refused(String what, String exception, Call call) {
        for (String full : FULL) {
            Sample s = sample(full);
            String before = Sample.told(s.row);
            Check.due(what + ", full of " + full, exception, () -> call.on(s, s.row));
            Check.due(what + ", full of " + full + ", has changed nothing", before, () -> Sample.told(s.row));
        }
    }

    private static void refused(String what, String exception, int[] wrongs, CallOf call) {
        for (int wrong : wrongs) {
            refused(what + " " + wrong, exception, (s, row) -> call.on(s, row, wrong));
        }
    }

    /** A call that tells what is new: it is refused in a row that is full of one of these, and only there. */
    private static void tells(String what, String news, Call call) {
        for (String full : FULL) {
            Sample s = sample(full);
            String before = Sample.told(s.row);
            boolean isRefused = false;
            for (char of : news.toCharArray()) {
                isRefused |= full.indexOf(of) >= 0;
            }
            String answer = Check.answerOf(() -> call.on(s, s.row));
            Check.due(what + ", full of " + full, isRefused ? STATE : "a number",
                    () -> answer.startsWith("throws") ? answer : "a number");
            if (isRefused) {
                Check.due(what + ", full of " + full + ", has changed nothing", before, () -> Sample.told(s.row));
            }
        }
    }

    /** A call that tells nothing new answers in any row. */
    private static void known(String what, int want, Call call) {
        for (String full : FULL) {
            Sample s = sample(full);
            String before = Sample.told(s.row);
            Check.due(what + ", full of " + full, want, () -> call.on(s, s.row));
            Check.due(what + ", full of " + full + ", has changed nothing", before, () -> Sample.told(s.row));
        }
    }

    private static void terms() {
        refused("2 variable", ARGUMENT, NO_LABEL, (s, row, w) -> row.variable(w));
        tells("2 variable 5", "t", (s, row) -> row.variable(5));
        known("2 variable 0", 0, (s, row) -> row.variable(0));
        refused("3 number", ARGUMENT, NO_TOLD, (s, row, w) -> row.number(w));
        tells("3 number 98", "t", (s, row) -> row.number(98));
        known("3 number 0", 2, (s, row) -> row.number(0));
        known("3 number 99", 12, (s, row) -> row.number(99));
        refused("4 plus of", INDEX, NO_NUMBER, (s, row, w) -> row.plus(w, s.fiftyOne));
        refused("4 plus with", INDEX, NO_NUMBER, (s, row, w) -> row.plus(s.fiftyOne, w));
        refused("4 plus, too long", UNSUPPORTED, (s, row) -> row.plus(s.fiftyOne, s.fiftyOne));
        tells("4 plus", "t", (s, row) -> row.plus(s.x, s.two));
        known("4 plus", 5, (s, row) -> row.plus(s.x, s.one));
        refused("5 times of", INDEX, NO_NUMBER, (s, row, w) -> row.times(w, s.fiftyOne));
        refused("5 times with", INDEX, NO_NUMBER, (s, row, w) -> row.times(s.fiftyOne, w));
        refused("5 times, too long", UNSUPPORTED, (s, row) -> row.times(s.fiftyOne, s.fiftyOne));
        tells("5 times", "t", (s, row) -> row.times(s.x, s.one));
        known("5 times", 13, (s, row) -> row.times(s.ninetyNine, s.ninetyNine));
        refused("6 areSame of", INDEX, NO_NUMBER, (s, row, w) -> row.areSame(w, s.x));
        refused("6 areSame with", INDEX, NO_NUMBER, (s, row, w) -> row.areSame(s.x, w));
    }

    private static void formulas() {
        refused("7 equal of", INDEX, NO_NUMBER, (s, row, w) -> row.equal(w, s.fiftyOne));
        refused("7 equal with", INDEX, NO_NUMBER, (s, row, w) -> row.equal(s.fiftyOne, w));
        refused("7 equal, too long", UNSUPPORTED, (s, row) -> row.equal(s.fiftyOne, s.fiftyOne));
        tells("7 equal", "f", (s, row) -> row.equal(s.y, s.two));
        known("7 equal", 0, (s, row) -> row.equal(s.x, s.y));
        refused("8 less of", INDEX, NO_NUMBER, (s, row, w) -> row.less(w, s.fiftyOne));
        refused("8 less with", INDEX, NO_NUMBER, (s, row, w) -> row.less(s.fiftyOne, w));
        refused("8 less, too long", UNSUPPORTED, (s, row) -> row.less(s.fiftyOne, s.fiftyOne));
        tells("8 less", "f", (s, row) -> row.less(s.y, s.two));
        known("8 less", 1, (s, row) -> row.less(s.x, s.y));
        for (char way : new char[] {'&', '|', '>'}) {
            refused("9 join by " + way + " of", INDEX, NO_NUMBER, (s, row, w) -> row.join(w, way, s.whole));
            refused("9 join by " + way + " with", INDEX, NO_NUMBER, (s, row, w) -> row.join(s.whole, way, w));
            refused("9 join by " + way + ", too long", UNSUPPORTED, (s, row) -> row.join(s.whole, way, s.whole));
            tells("9 join by " + way, "f", (s, row) -> row.join(s.less, way, s.equal));
        }
        refused("9 join by no way of", INDEX, NO_NUMBER, (s, row, w) -> row.join(w, 'x', s.whole));
        refused("9 join by no way with", INDEX, NO_NUMBER, (s, row, w) -> row.join(s.whole, 'x', w));
        refused("9 join", ARGUMENT, new int[] {'A', 'E', '=', '<', 'x', 0, 255, 0xFFFF},
                (s, row, w) -> row.join(s.whole, (char) w, s.whole));
        known("9 join by &", 10, (s, row) -> row.join(s.equal, '&', s.less));
        known("9 join by |", 11, (s, row) -> row.join(s.equal, '|', s.less));
        known("9 join by >", 9, (s, row) -> row.join(s.equal, '>', s.less));
        bind();
        refused("11 kindOf", INDEX, NO_NUMBER, (s, row, w) -> row.kindOf(w));
        refused("12 within, first", INDEX, NO_NUMBER, (s, row, w) -> row.within(w, false));
        refused("12 within, second", INDEX, NO_NUMBER, (s, row, w) -> row.within(w, true));
        refused("13 isFree of", INDEX, NO_NUMBER, (s, row, w) -> row.isFree(w, 0));
        refused("13 isFree of, and no variable", INDEX, NO_NUMBER, (s, row, w) -> row.isFree(w, 6));
        refused("13 isFree", ARGUMENT, NO_LABEL, (s, row, w) -> row.isFree(s.equal, w));
    }

    private static void bind() {
        for (char way : new char[] {'A', 'E'}) {
            refused("10 bind by " + way, INDEX, NO_NUMBER, (s, row, w) -> row.bind(way, 0, w));
            refused("10 bind no variable by " + way, INDEX, NO_NUMBER, (s, row, w) -> row.bind(way, 6, w));
            refused("10 bind by " + way + " the variable", ARGUMENT, NO_LABEL,
                    (s, row, w) -> row.bind(way, w, s.allWhole));
            refused("10 bind by " + way + ", too long", UNSUPPORTED, (s, row) -> row.bind(way, 0, s.allWhole));
            tells("10 bind by " + way, "f", (s, row) -> row.bind(way, 2, s.equal));
        }
        refused("10 bind by no way", INDEX, NO_NUMBER, (s, row, w) -> row.bind('x', 0, w));
        refused("10 bind", ARGUMENT, new int[] {'&', '|', '>', '=', '<', 'x', 0, 255, 0xFFFF},
                (s, row, w) -> row.bind((char) w, 0, s.allWhole));
        known("10 bind by A", 7, (s, row) -> row.bind('A', 1, s.less));
        known("10 bind by E", 8, (s, row) -> row.bind('E', 1, s.less));
    }

    private static void put() {
        refused("14 put into", INDEX, NO_NUMBER, (s, row, w) -> row.put(w, 0, s.x));
        refused("14 put for no variable into", INDEX, NO_NUMBER, (s, row, w) -> row.put(w, 6, s.x));
        refused("14 put the term", INDEX, NO_NUMBER, (s, row, w) -> row.put(s.whole, 0, w));
        refused("14 put for no variable the term", INDEX, NO_NUMBER, (s, row, w) -> row.put(s.all, 6, w));
        refused("14 put what is bound for", ARGUMENT, NO_LABEL, (s, row, w) -> row.put(s.all, w, s.y));
        refused("14 put what is long for", ARGUMENT, NO_LABEL, (s, row, w) -> row.put(s.whole, w, s.next));
        refused("14 put, a variable would be bound", UNSUPPORTED, (s, row) -> row.put(s.all, 0, s.y));
        refused("14 put, too long", UNSUPPORTED, (s, row) -> row.put(s.whole, 0, s.next));
        tells("14 put", "f", (s, row) -> row.put(s.less, 0, s.two));
        tells("14 put with a term that comes", "tf", (s, row) -> row.put(s.lessThanNext, 0, s.two));
        tells("14 put within all", "f", (s, row) -> row.put(s.all, 0, s.two));
        known("14 put x for x", 1, (s, row) -> row.put(s.less, 0, s.x));
        known("14 put 0 for x", 14, (s, row) -> row.put(s.same, 0, s.zero));
        known("14 put for what is not there", 1, (s, row) -> row.put(s.less, 5, s.two));
        known("14 put for what is bound, and what would be", 7, (s, row) -> row.put(s.all, 1, s.y));
        known("14 put for what is not there in what is long", 5, (s, row) -> row.put(s.whole, 1, s.next));
    }

    private static void assumed() {
        refused("15 assume", INDEX, NO_NUMBER, (s, row, w) -> row.assume(0, w));
        refused("15 assume by no label", INDEX, NO_NUMBER, (s, row, w) -> row.assume(6, w));
        refused("15 assume by", ARGUMENT, NO_LABEL, (s, row, w) -> row.assume(w, s.equal));
        tells("15 assume", "p", (s, row) -> row.assume(0, s.equal));
        refused("16 fact", INDEX, NO_NUMBER, (s, row, w) -> row.fact(w));
        refused("16 fact x = y", UNSUPPORTED, (s, row) -> row.fact(s.equal));
        refused("16 fact x < y", UNSUPPORTED, (s, row) -> row.fact(s.less));
        refused("16 fact of all", UNSUPPORTED, (s, row) -> row.fact(s.allSame));
        tells("16 fact x = x", "p", (s, row) -> row.fact(s.same));
        tells("16 fact x < x + 1", "p", (s, row) -> row.fact(s.lessThanNext));
    }

    private static void joined() {
        refused("17 both of", INDEX, NO_NUMBER, (s, row, w) -> row.both(w, s.hasWhole));
        refused("17 both with", INDEX, NO_NUMBER, (s, row, w) -> row.both(s.hasWhole, w));
        refused("17 both, labels do not agree", UNSUPPORTED, (s, row) -> row.both(s.hasEqual, s.hasLessBy0));
        refused("17 both, too long", UNSUPPORTED, (s, row) -> row.both(s.hasWhole, s.hasWhole));
        tells("17 both", "pf", (s, row) -> row.both(s.hasLess, s.hasEqual));
        tells("17 both of the same", "pf", (s, row) -> row.both(s.hasLess, s.hasLess));
        tells("17 both that is there", "p", (s, row) -> row.both(s.hasEqual, s.hasLess));
        refused("18 part", INDEX, NO_NUMBER, (s, row, w) -> row.part(w, true));
        refused("18 part of x = y", UNSUPPORTED, (s, row) -> row.part(s.hasEqual, false));
        refused("18 part of one or the other", UNSUPPORTED, (s, row) -> row.part(s.hasEither, true));
        tells("18 part, first", "p", (s, row) -> row.part(s.hasBoth, false));
        tells("18 part, second", "p", (s, row) -> row.part(s.hasBoth, true));
        refused("19 either of", INDEX, NO_NUMBER, (s, row, w) -> row.either(w, s.whole, true));
        refused("19 either with", INDEX, NO_NUMBER, (s, row, w) -> row.either(s.hasWhole, w, false));
        refused("19 either, too long, first", UNSUPPORTED, (s, row) -> row.either(s.hasWhole, s.equal, true));
        refused("19 either, too long, second", UNSUPPORTED, (s, row) -> row.either(s.hasEqual, s.whole, false));
        tells("19 either", "pf", (s, row) -> row.either(s.hasEqual, s.less, false));
        tells("19 either that is there", "p", (s, row) -> row.either(s.hasEqual, s.less, true));
    }

    private static void cases() {
        refused("20 cases of", INDEX, NO_NUMBER, (s, row, w) -> row.cases(w, s.isSame, s.isSame, 6));
        refused("20 cases first by", INDEX, NO_NUMBER, (s, row, w) -> row.cases(s.hasEither, w, s.isSame, 6));
        refused("20 cases second by", INDEX, NO_NUMBER, (s, row, w) -> row.cases(s.hasEither, s.isSame, w, 6));
        refused("20 cases by", ARGUMENT, NO_LABEL, (s, row, w) -> row.cases(s.hasEqual, s.isSame, s.hasLess, w));
        refused("20 cases of both", UNSUPPORTED, (s, row) -> row.cases(s.hasBoth, s.isSame, s.isSame, 0));
        refused("20 cases not of the same", UNSUPPORTED, (s, row) -> row.cases(s.hasEither, s.isSame, s.areZeros, 0));
        refused("20 cases, another first formula", UNSUPPORTED,
                (s, row) -> row.cases(s.hasEither, s.hasLessBy0, s.hasLess, 0));
        refused("20 cases, another second formula", UNSUPPORTED,
                (s, row) -> row.cases(s.hasEither, s.isSame, s.isSameBy0, 0));
        refused("20 cases, labels do not agree", UNSUPPORTED,
                (s, row) -> row.cases(s.hasEither, s.hasEqualBy4, s.hasEqual, 1));
        tells("20 cases", "p", (s, row) -> row.cases(s.hasEither, s.isSameBy0, s.isSame, 0));
        tells("20 cases, the label in the second", "p", (s, row) -> row.cases(s.hasEither, s.hasLess, s.hasLessBy0, 0));
    }

    private static void functions() {
        refused("21 suppose of", INDEX, NO_NUMBER, (s, row, w) -> row.suppose(w, 0, s.whole));
        refused("21 suppose by no label of", INDEX, NO_NUMBER, (s, row, w) -> row.suppose(w, 6, s.whole));
        refused("21 suppose the formula", INDEX, NO_NUMBER, (s, row, w) -> row.suppose(s.hasEqual, 0, w));
        refused("21 suppose by no label the formula", INDEX, NO_NUMBER, (s, row, w) -> row.suppose(s.hasEqual, 6, w));
        refused("21 suppose what is long by", ARGUMENT, NO_LABEL, (s, row, w) -> row.suppose(s.hasEqual, w, s.whole));
        refused("21 suppose another formula", UNSUPPORTED, (s, row) -> row.suppose(s.hasEqual, 0, s.less));
        refused("21 suppose, too long", UNSUPPORTED, (s, row) -> row.suppose(s.hasEqual, 1, s.whole));
        tells("21 suppose", "pf", (s, row) -> row.suppose(s.hasEqual, 0, s.equal));
        tells("21 suppose that is there", "p", (s, row) -> row.suppose(s.hasLess, 0, s.equal));
        refused("22 apply", INDEX, NO_NUMBER, (s, row, w) -> row.apply(w, s.hasEqual));
        refused("22 apply to", INDEX, NO_NUMBER, (s, row, w) -> row.apply(s.hasEqual, w));
        refused("22 apply both", UNSUPPORTED, (s, row) -> row.apply(s.hasBoth, s.hasEqual));
        refused("22 apply to another one", UNSUPPORTED, (s, row) -> row.apply(s.hasFollows, s.hasLess));
        refused("22 apply, labels do not agree", UNSUPPORTED, (s, row) -> row.apply(s.hasFollows, s.hasEqualBy4));
        tells("22 apply", "p", (s, row) -> row.apply(s.hasFollows, s.hasEqual));
        refused("23 generalize", INDEX, NO_NUMBER, (s, row, w) -> row.generalize(w, 0));
        refused("23 generalize no variable of", INDEX, NO_NUMBER, (s, row, w) -> row.generalize(w, 6));
        refused("23 generalize what is free in a label:", ARGUMENT, NO_LABEL,
                (s, row, w) -> row.generalize(s.hasEqual, w));
        refused("23 generalize, free in a label", UNSUPPORTED, (s, row) -> row.generalize(s.hasEqual, 1));
        refused("23 generalize, too long", UNSUPPORTED, (s, row) -> row.generalize(s.hasAllWhole, 0));
        tells("23 generalize", "pf", (s, row) -> row.generalize(s.isSame, 2));
        tells("23 generalize that is there", "p", (s, row) -> row.generalize(s.isSame, 0));
        refused("24 specialize", INDEX, NO_NUMBER, (s, row, w) -> row.specialize(w, s.x));
        refused("24 specialize to", INDEX, NO_NUMBER, (s, row, w) -> row.specialize(s.hasEqual, w));
        refused("24 specialize some", UNSUPPORTED, (s, row) -> row.specialize(s.hasSome, s.x));
        refused("24 specialize, a variable would be bound", UNSUPPORTED, (s, row) -> row.specialize(s.hasAllSome, s.y));
        refused("24 specialize, too long", UNSUPPORTED, (s, row) -> row.specialize(s.hasAllWhole, s.next));
        tells("24 specialize", "pf", (s, row) -> row.specialize(s.hasAllLess, s.two));
        tells("24 specialize with a term that comes", "ptf", (s, row) -> row.specialize(s.hasAllNext, s.two));
        tells("24 specialize that is there", "p", (s, row) -> row.specialize(s.hasAllLess, s.x));
    }

    private static void numbers() {
        refused("25 exhibit by", INDEX, NO_NUMBER, (s, row, w) -> row.exhibit(w, s.all, s.y));
        refused("25 exhibit the formula", INDEX, NO_NUMBER, (s, row, w) -> row.exhibit(s.isLessThanNext, w, s.next));
        refused("25 exhibit the term", INDEX, NO_NUMBER, (s, row, w) -> row.exhibit(s.isLessThanNext, s.all, w));
        refused("25 exhibit all", UNSUPPORTED, (s, row) -> row.exhibit(s.isLessThanNext, s.all, s.next));
        refused("25 exhibit, a variable would be bound", UNSUPPORTED, (s, row) -> row.exhibit(s.hasAll, s.someAll, s.y));
        refused("25 exhibit another term", UNSUPPORTED, (s, row) -> row.exhibit(s.isLessThanNext, s.some, s.two));
        tells("25 exhibit", "p", (s, row) -> row.exhibit(s.isLessThanNext, s.some, s.next));
        refused("26 reveal", INDEX, NO_NUMBER, (s, row, w) -> row.reveal(w, s.isSame, 6));
        refused("26 reveal for", INDEX, NO_NUMBER, (s, row, w) -> row.reveal(s.hasSome, w, 6));
        refused("26 reveal by", ARGUMENT, NO_LABEL, (s, row, w) -> row.reveal(s.hasAll, s.hasLess, w));
        refused("26 reveal all", UNSUPPORTED, (s, row) -> row.reveal(s.hasAll, s.isSame, 0));
        refused("26 reveal, free in the formula", UNSUPPORTED, (s, row) -> row.reveal(s.hasSome, s.hasLess, 1));
        refused("26 reveal, free in another label", UNSUPPORTED, (s, row) -> row.reveal(s.hasSome, s.isSameBy0, 1));
        refused("26 reveal, the label has another one", UNSUPPORTED, (s, row) -> row.reveal(s.hasSome, s.isSameBy0, 0));
        refused("26 reveal, labels do not agree", UNSUPPORTED, (s, row) -> row.reveal(s.hasSome, s.hasZerosBy4, 0));
        tells("26 reveal", "p", (s, row) -> row.reveal(s.hasSome, s.isSame, 0));
        refused("27 induct from", INDEX, NO_NUMBER, (s, row, w) -> row.induct(w, s.hasStep, s.allSame));
        refused("27 induct by", INDEX, NO_NUMBER, (s, row, w) -> row.induct(s.areZeros, w, s.allSame));
        refused("27 induct to", INDEX, NO_NUMBER, (s, row, w) -> row.induct(s.areZeros, s.hasStep, w));
        refused("27 induct to some", UNSUPPORTED, (s, row) -> row.induct(s.areZeros, s.hasStep, s.someSame));
        refused("27 induct from another one", UNSUPPORTED, (s, row) -> row.induct(s.isSame, s.hasStep, s.allSame));
        refused("27 induct by another one", UNSUPPORTED, (s, row) -> row.induct(s.areZeros, s.hasAllNext, s.allSame));
        refused("27 induct, labels do not agree", UNSUPPORTED,
                (s, row) -> row.induct(s.hasZerosBy4, s.hasStep, s.allSame));
        tells("27 induct", "p", (s, row) -> row.induct(s.areZeros, s.hasStep, s.allSame));
    }

    private static void rewritten() {
        refused("28 rewrite by", INDEX, NO_NUMBER, (s, row, w) -> row.rewrite(w, s.hasAll, s.all, 6));
        refused("28 rewrite the proof", INDEX, NO_NUMBER, (s, row, w) -> row.rewrite(s.hasEqual, w, s.all, 6));
        refused("28 rewrite the formula", INDEX, NO_NUMBER, (s, row, w) -> row.rewrite(s.hasEqual, s.hasAll, w, 6));
        refused("28 rewrite the variable", ARGUMENT, NO_LABEL, (s, row, w) -> row.rewrite(s.hasLess, s.hasAll, s.all, w));
        refused("28 rewrite by less", UNSUPPORTED, (s, row) -> row.rewrite(s.hasLess, s.hasLess, s.less, 0));
        refused("28 rewrite another one", UNSUPPORTED, (s, row) -> row.rewrite(s.hasEqual, s.isSame, s.less, 0));
        refused("28 rewrite, a variable would be bound", UNSUPPORTED,
                (s, row) -> row.rewrite(s.hasEqual, s.hasAll, s.all, 0));
        refused("28 rewrite, too long", UNSUPPORTED, (s, row) -> row.rewrite(s.isNext, s.hasWhole, s.whole, 0));
        refused("28 rewrite, labels do not agree", UNSUPPORTED,
                (s, row) -> row.rewrite(s.hasEqual, s.hasLessBy0, s.less, 5));
        tells("28 rewrite", "pf", (s, row) -> row.rewrite(s.hasEqual, s.hasLess, s.less, 0));
        tells("28 rewrite with a term that comes", "ptf",
                (s, row) -> row.rewrite(s.isTwo, s.isLessThanNext, s.lessThanNext, 0));
        tells("28 rewrite that is there", "p", (s, row) -> row.rewrite(s.hasEqual, s.hasLess, s.less, 5));
        refused("29 decide", INDEX, NO_NUMBER, (s, row, w) -> row.decide(w));
        refused("29 decide all", UNSUPPORTED, (s, row) -> row.decide(s.all));
        refused("29 decide some", UNSUPPORTED, (s, row) -> row.decide(s.some));
        refused("29 decide, too long", UNSUPPORTED, (s, row) -> row.decide(s.whole));
        tells("29 decide", "pf", (s, row) -> row.decide(s.less));
        tells("29 decide that is there", "p", (s, row) -> row.decide(s.equal));
        refused("30 absurd by", INDEX, NO_NUMBER, (s, row, w) -> row.absurd(w, s.less));
        refused("30 absurd of", INDEX, NO_NUMBER, (s, row, w) -> row.absurd(s.hasEqual, w));
        refused("30 absurd by x = y", UNSUPPORTED, (s, row) -> row.absurd(s.hasEqual, s.less));
        refused("30 absurd by 0 = 0", UNSUPPORTED, (s, row) -> row.absurd(s.areZeros, s.less));
        tells("30 absurd", "p", (s, row) -> row.absurd(s.hasFalsehood, s.less));
    }

    private static void proofs() {
        refused("31 formulaOf", INDEX, NO_NUMBER, (s, row, w) -> row.formulaOf(w));
        refused("32 openLabels", INDEX, NO_NUMBER, (s, row, w) -> row.openLabels(w));
        refused("33 labelOf", INDEX, NO_NUMBER, (s, row, w) -> row.labelOf(w, 0));
        refused("33 labelOf, and no label", INDEX, NO_NUMBER, (s, row, w) -> row.labelOf(w, 6));
        refused("33 labelOf the label", ARGUMENT, NO_LABEL, (s, row, w) -> row.labelOf(s.isSame, w));
        for (int label = 1; label < 6; label++) {
            int closed = label;
            refused("33 labelOf what is not open", ELEMENT, (s, row) -> row.labelOf(s.hasEqual, closed));
        }
        refused("34 uses", INDEX, NO_NUMBER, (s, row, w) -> row.uses(w));
        refused("35 depth", INDEX, NO_NUMBER, (s, row, w) -> row.depth(w));
        refused("36 detours", INDEX, NO_NUMBER, (s, row, w) -> row.detours(w));
    }

    private static void runs() {
        refused("37 run", INDEX, NO_NUMBER, (s, row, w) -> row.run(w, 0));
        refused("37 run for no input", INDEX, NO_NUMBER, (s, row, w) -> row.run(w, 31));
        refused("37 run what is open for", ARGUMENT, NO_INPUT, (s, row, w) -> row.run(s.hasAllSome, w));
        refused("37 run what is open", UNSUPPORTED, (s, row) -> row.run(s.hasAllSome, 0));
        refused("37 run some", UNSUPPORTED, (s, row) -> row.run(s.gives, 0));
        refused("37 run all", UNSUPPORTED, (s, row) -> row.run(s.ofAll, 0));
        refused("37 run one or the other within all", UNSUPPORTED, (s, row) -> row.run(s.chooses, 0));
        refused("37 run all within all", UNSUPPORTED, (s, row) -> row.run(s.ofAllOfAll, 0));
        refused("37 run that is refused", UNSUPPORTED, (s, row) -> row.run(s.runsGreat, 0));
        refused("38 witness", INDEX, NO_NUMBER, (s, row, w) -> row.witness(w));
        refused("38 witness of what is open", UNSUPPORTED, (s, row) -> row.witness(s.hasSome));
        refused("38 witness of some within all", UNSUPPORTED, (s, row) -> row.witness(s.runs));
        refused("38 witness of x = x", UNSUPPORTED, (s, row) -> row.witness(s.isSame));
        refused("38 witness that is refused", UNSUPPORTED, (s, row) -> row.witness(s.givesGreat));
        refused("39 choice", INDEX, NO_NUMBER, (s, row, w) -> row.choice(w, 0));
        refused("39 choice for no input", INDEX, NO_NUMBER, (s, row, w) -> row.choice(w, 31));
        refused("39 choice of what is open for", ARGUMENT, NO_INPUT, (s, row, w) -> row.choice(s.hasAllEither, w));
        refused("39 choice of what is open", UNSUPPORTED, (s, row) -> row.choice(s.hasAllEither, 0));
        refused("39 choice of one or the other", UNSUPPORTED, (s, row) -> row.choice(s.decides, 0));
        refused("39 choice of some within all", UNSUPPORTED, (s, row) -> row.choice(s.runs, 0));
        refused("39 choice that is refused", UNSUPPORTED, (s, row) -> row.choice(s.choosesGreat, 0));
    }

    private static void plain() {
        refused("41 holds", INDEX, NO_NUMBER, (s, row, w) -> row.holds(w, 0, 0));
        refused("41 holds for no number", INDEX, NO_NUMBER, (s, row, w) -> row.holds(w, 100, -1));
        refused("41 holds of all for the first", ARGUMENT, NO_TOLD, (s, row, w) -> row.holds(s.all, w, 0));
        refused("41 holds of all for the second", ARGUMENT, NO_TOLD, (s, row, w) -> row.holds(s.all, 0, w));
        refused("41 holds of all", UNSUPPORTED, (s, row) -> row.holds(s.all, 0, 0));
        refused("41 holds of some", UNSUPPORTED, (s, row) -> row.holds(s.some, 0, 0));
        refused("41 holds of what is too great", UNSUPPORTED, (s, row) -> row.holds(s.greatLess, 0, 0));
        refused("42 search", INDEX, NO_NUMBER, (s, row, w) -> row.search(w, 0));
        refused("42 search for no number", INDEX, NO_NUMBER, (s, row, w) -> row.search(w, 100));
        refused("42 search of all for", ARGUMENT, NO_TOLD, (s, row, w) -> row.search(s.all, w));
        refused("42 search of all", UNSUPPORTED, (s, row) -> row.search(s.all, 0));
        refused("42 search of some", UNSUPPORTED, (s, row) -> row.search(s.some, 0));
        refused("42 search of what is too great", UNSUPPORTED, (s, row) -> row.search(s.greatLess, 0));
        refused("42 search of what is never true", ELEMENT, (s, row) -> row.search(s.falsehood, 0));
    }

    public static void main(String[] args) {
        terms();
        formulas();
        put();
        assumed();
        joined();
        cases();
        functions();
        numbers();
        rewritten();
        proofs();
        runs();
        plain();
        Check.end();
    }
}
