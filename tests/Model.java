import java.util.ArrayList;
import java.util.Arrays;
import java.util.HashMap;
import java.util.HashSet;
import java.util.List;
import java.util.Map;
import java.util.NoSuchElementException;
import java.util.Set;
import java.util.TreeMap;

/** The document once more, as plainly as can be: trees, maps and recursion. Calls of WitnessRow are held against it. */
final class Model {
    record T(char op, int n, T a, T b) {
        int length() {
            return a == null ? 1 : 1 + a.length() + b.length();
        }

        boolean has(int variable) {
            return a == null ? op == 'v' && n == variable : a.has(variable) || b.has(variable);
        }

        T with(int variable, T other) {
            if (a == null) {
                return op == 'v' && n == variable ? other : this;
            }
            return new T(op, 0, a.with(variable, other), b.with(variable, other));
        }
    }

    record F(char kind, int n, T s, T t, F f, F g) {
        int length() {
            if (s != null) {
                return 1 + s.length() + t.length();
            }
            return 1 + (f == null ? 0 : f.length()) + g.length();
        }

        boolean isPlain() {
            return s != null || f != null && f.isPlain() && g.isPlain();
        }

        boolean has(int variable) {
            if (s != null) {
                return s.has(variable) || t.has(variable);
            }
            return f == null ? n != variable && g.has(variable) : f.has(variable) || g.has(variable);
        }

        F with(int variable, T term) {
            if (s != null) {
                return new F(kind, 0, s.with(variable, term), t.with(variable, term), null, null);
            }
            if (f != null) {
                return new F(kind, 0, null, null, f.with(variable, term), g.with(variable, term));
            }
            if (!has(variable)) {
                return this;
            }
            if (term.has(n)) {
                throw new UnsupportedOperationException();
            }
            return new F(kind, n, null, null, null, g.with(variable, term));
        }
    }

    static final class P {
        String rule;
        F formula;
        int detail;
        List<P> from = new ArrayList<>();
        Map<Integer, F> open = new HashMap<>();
    }

    record Pair(Object a, Object b) {
    }

    record Choice(boolean isFirst, Object value) {
    }

    record Some(int number, Object value) {
    }

    interface Function {
        Object at(Object argument, int depth);
    }

    static final class Refused extends RuntimeException {
        private static final long serialVersionUID = 1;
    }

    final List<T> terms = new ArrayList<>();
    final List<F> formulas = new ArrayList<>();
    final List<P> proofs = new ArrayList<>();
    private int steps = 0;
    private int running = 0;

    Model copy() {
        Model model = new Model();
        model.terms.addAll(terms);
        model.formulas.addAll(formulas);
        model.proofs.addAll(proofs);
        model.steps = steps;
        return model;
    }

    private static void argument(boolean isRight) {
        if (!isRight) {
            throw new IllegalArgumentException();
        }
    }

    private static void fit(boolean isRight) {
        if (!isRight) {
            throw new UnsupportedOperationException();
        }
    }

    private static void state(boolean isRight) {
        if (!isRight) {
            throw new IllegalStateException();
        }
    }

    private T term(int i) {
        if (i < 0 || i >= terms.size()) {
            throw new IndexOutOfBoundsException();
        }
        return terms.get(i);
    }

    private F formula(int i) {
        if (i < 0 || i >= formulas.size()) {
            throw new IndexOutOfBoundsException();
        }
        return formulas.get(i);
    }

    private P proof(int i) {
        if (i < 0 || i >= proofs.size()) {
            throw new IndexOutOfBoundsException();
        }
        return proofs.get(i);
    }

    private void addTerm(T t) {
        if (terms.contains(t)) {
            return;
        }
        if (t.a() != null) {
            addTerm(t.a());
            addTerm(t.b());
        }
        terms.add(t);
    }

    private void addFormula(F f) {
        if (formulas.contains(f)) {
            return;
        }
        if (f.s() != null) {
            addTerm(f.s());
            addTerm(f.t());
        } else {
            if (f.f() != null) {
                addFormula(f.f());
            }
            addFormula(f.g());
        }
        formulas.add(f);
    }

    private int tell(T t) {
        fit(t.length() <= 100);
        Model next = copy();
        next.addTerm(t);
        state(next.terms.size() <= 60);
        take(next);
        return terms.indexOf(t);
    }

    private int tell(F f) {
        fit(f.length() <= 100);
        Model next = copy();
        next.addFormula(f);
        state(next.terms.size() <= 60 && next.formulas.size() <= 60);
        take(next);
        return formulas.indexOf(f);
    }

    private void take(Model next) {
        for (int i = terms.size(); i < next.terms.size(); i++) {
            terms.add(next.terms.get(i));
        }
        for (int i = formulas.size(); i < next.formulas.size(); i++) {
            formulas.add(next.formulas.get(i));
        }
    }

    private static final T ZERO = new T('n', 0, null, null);
    private static final T ONE = new T('n', 1, null, null);
    private static final F FALSE = new F('=', 0, ZERO, ONE, null, null);

    private static F joined(char way, F f, F g) {
        return new F(way, 0, null, null, f, g);
    }

    private static F bound(char way, int variable, F f) {
        return new F(way, variable, null, null, null, f);
    }

    int variable(int v) {
        argument(v >= 0 && v <= 5);
        return tell(new T('v', v, null, null));
    }

    int number(int n) {
        argument(n >= 0 && n <= 99);
        return tell(new T('n', n, null, null));
    }

    int plus(int a, int b) {
        return tell(new T('+', 0, term(a), term(b)));
    }

    int times(int a, int b) {
        return tell(new T('*', 0, term(a), term(b)));
    }

    /** Products, each a sorted text of its variables, with the numbers in front; null if too great. */
    private static TreeMap<String, Long> multiplied(T t) {
        TreeMap<String, Long> sum = new TreeMap<>();
        if (t.op() == 'v') {
            sum.put("" + t.n(), 1L);
        } else if (t.op() == 'n') {
            if (t.n() > 0) {
                sum.put("", (long) t.n());
            }
        } else {
            TreeMap<String, Long> a = multiplied(t.a());
            TreeMap<String, Long> b = multiplied(t.b());
            if (a == null || b == null) {
                return null;
            }
            if (t.op() == '+') {
                sum.putAll(a);
                b.forEach((k, n) -> sum.merge(k, n, Long::sum));
            } else {
                a.forEach((k, n) -> b.forEach((l, m) -> {
                    char[] both = (k + l).toCharArray();
                    Arrays.sort(both);
                    sum.merge(new String(both), n * m, Long::sum);
                }));
            }
        }
        boolean isTooGreat = sum.size() > 60;
        for (Map.Entry<String, Long> e : sum.entrySet()) {
            isTooGreat |= e.getKey().length() > 6 || e.getValue() > 1000000;
        }
        return isTooGreat ? null : sum;
    }

    boolean areSame(int a, int b) {
        return areSame(term(a), term(b));
    }

    private static boolean areSame(T a, T b) {
        TreeMap<String, Long> m = multiplied(a);
        return m != null && m.equals(multiplied(b));
    }

    int equal(int a, int b) {
        return tell(new F('=', 0, term(a), term(b), null, null));
    }

    int less(int a, int b) {
        return tell(new F('<', 0, term(a), term(b), null, null));
    }

    int join(int f, char way, int g) {
        F first = formula(f);
        F second = formula(g);
        argument("&|>".indexOf(way) >= 0);
        return tell(joined(way, first, second));
    }

    int bind(char way, int v, int f) {
        F body = formula(f);
        argument("AE".indexOf(way) >= 0 && v >= 0 && v <= 5);
        return tell(bound(way, v, body));
    }

    int kindOf(int f) {
        return formula(f).kind();
    }

    int within(int i, boolean isSecond) {
        F f = formula(i);
        if (f.s() != null) {
            return terms.indexOf(isSecond ? f.t() : f.s());
        }
        if (f.f() == null && !isSecond) {
            return f.n();
        }
        return formulas.indexOf(isSecond ? f.g() : f.f());
    }

    boolean isFree(int f, int v) {
        F it = formula(f);
        argument(v >= 0 && v <= 5);
        return it.has(v);
    }

    int put(int f, int v, int t) {
        F it = formula(f);
        T term = term(t);
        argument(v >= 0 && v <= 5);
        return tell(it.with(v, term));
    }

    private static void unite(Map<Integer, F> into, P from, int closed) {
        from.open.forEach((label, f) -> {
            if (label != closed) {
                fit(f.equals(into.getOrDefault(label, f)));
                into.put(label, f);
            }
        });
    }

    private int prove(String rule, F f, int detail, Map<Integer, F> open, P... from) {
        fit(f.length() <= 100);
        state(proofs.size() < 60);
        tell(f);
        P p = new P();
        p.rule = rule;
        p.formula = f;
        p.detail = detail;
        p.open = open;
        p.from = List.of(from);
        proofs.add(p);
        return proofs.size() - 1;
    }

    private static Map<Integer, F> openOf(P... from) {
        Map<Integer, F> open = new HashMap<>();
        for (P p : from) {
            unite(open, p, -1);
        }
        return open;
    }

    int assume(int label, int f) {
        F it = formula(f);
        argument(label >= 0 && label <= 5);
        return prove("assume", it, label, new HashMap<>(Map.of(label, it)));
    }

    int fact(int f) {
        F it = formula(f);
        boolean isFact = false;
        if (it.kind() == '=') {
            isFact = areSame(it.s(), it.t());
        } else if (it.kind() == '<') {
            TreeMap<String, Long> a = multiplied(it.s());
            TreeMap<String, Long> b = multiplied(it.t());
            if (a != null && b != null) {
                a.forEach((k, n) -> b.merge(k, -n, Long::sum));
                isFact = b.getOrDefault("", 0L) >= 1;
                for (long n : b.values()) {
                    isFact &= n >= 0;
                }
            }
        }
        fit(isFact);
        return prove("fact", it, 0, new HashMap<>());
    }

    int both(int p, int q) {
        P first = proof(p);
        P second = proof(q);
        return prove("both", joined('&', first.formula, second.formula), 0, openOf(first, second), first, second);
    }

    int part(int p, boolean isSecond) {
        P it = proof(p);
        fit(it.formula.kind() == '&');
        return prove("part", isSecond ? it.formula.g() : it.formula.f(), isSecond ? 1 : 0, openOf(it), it);
    }

    int either(int p, int f, boolean isFirst) {
        P it = proof(p);
        F other = formula(f);
        F all = isFirst ? joined('|', it.formula, other) : joined('|', other, it.formula);
        return prove("either", all, isFirst ? 1 : 0, openOf(it), it);
    }

    private static void may(P p, int label, F f) {
        fit(f.equals(p.open.getOrDefault(label, f)));
    }

    int cases(int p, int q, int r, int label) {
        P it = proof(p);
        P first = proof(q);
        P second = proof(r);
        argument(label >= 0 && label <= 5);
        fit(it.formula.kind() == '|');
        fit(first.formula.equals(second.formula));
        may(first, label, it.formula.f());
        may(second, label, it.formula.g());
        Map<Integer, F> open = openOf(it);
        unite(open, first, label);
        unite(open, second, label);
        return prove("cases", first.formula, label, open, it, first, second);
    }

    int suppose(int p, int label, int f) {
        P it = proof(p);
        F from = formula(f);
        argument(label >= 0 && label <= 5);
        may(it, label, from);
        Map<Integer, F> open = new HashMap<>();
        unite(open, it, label);
        return prove("suppose", joined('>', from, it.formula), label, open, it);
    }

    int apply(int p, int q) {
        P it = proof(p);
        P other = proof(q);
        fit(it.formula.kind() == '>' && it.formula.f().equals(other.formula));
        return prove("apply", it.formula.g(), 0, openOf(it, other), it, other);
    }

    int generalize(int p, int v) {
        P it = proof(p);
        argument(v >= 0 && v <= 5);
        for (F f : it.open.values()) {
            fit(!f.has(v));
        }
        return prove("generalize", bound('A', v, it.formula), v, openOf(it), it);
    }

    int specialize(int p, int t) {
        P it = proof(p);
        T term = term(t);
        fit(it.formula.kind() == 'A');
        return prove("specialize", it.formula.g().with(it.formula.n(), term), t, openOf(it), it);
    }

    int exhibit(int p, int f, int t) {
        P it = proof(p);
        F some = formula(f);
        T term = term(t);
        fit(some.kind() == 'E');
        fit(some.g().with(some.n(), term).equals(it.formula));
        return prove("exhibit", some, t, openOf(it), it);
    }

    int reveal(int p, int q, int label) {
        P it = proof(p);
        P other = proof(q);
        argument(label >= 0 && label <= 5);
        fit(it.formula.kind() == 'E');
        may(other, label, it.formula.g());
        fit(!other.formula.has(it.formula.n()));
        Map<Integer, F> rest = new HashMap<>();
        unite(rest, other, label);
        for (F f : rest.values()) {
            fit(!f.has(it.formula.n()));
        }
        Map<Integer, F> open = openOf(it);
        unite(open, other, label);
        return prove("reveal", other.formula, label, open, it, other);
    }

    int induct(int p, int q, int f) {
        P start = proof(p);
        P step = proof(q);
        F all = formula(f);
        fit(all.kind() == 'A');
        int v = all.n();
        F next = all.g().with(v, new T('+', 0, new T('v', v, null, null), ONE));
        fit(start.formula.equals(all.g().with(v, ZERO)));
        fit(step.formula.equals(bound('A', v, joined('>', all.g(), next))));
        return prove("induct", all, 0, openOf(start, step), start, step);
    }

    int rewrite(int p, int q, int f, int v) {
        P equality = proof(p);
        P other = proof(q);
        F it = formula(f);
        argument(v >= 0 && v <= 5);
        fit(equality.formula.kind() == '=');
        fit(it.with(v, equality.formula.s()).equals(other.formula));
        return prove("rewrite", it.with(v, equality.formula.t()), 0, openOf(equality, other), equality, other);
    }

    int decide(int f) {
        F it = formula(f);
        fit(it.isPlain());
        return prove("decide", joined('|', it, joined('>', it, FALSE)), 0, new HashMap<>());
    }

    int absurd(int p, int f) {
        P it = proof(p);
        F any = formula(f);
        fit(it.formula.equals(FALSE));
        return prove("absurd", any, 0, openOf(it), it);
    }

    int formulaOf(int p) {
        return formulas.indexOf(proof(p).formula);
    }

    private static int bits(P p) {
        int bits = 0;
        for (int label : p.open.keySet()) {
            bits |= 1 << label;
        }
        return bits;
    }

    int openLabels(int p) {
        return bits(proof(p));
    }

    int labelOf(int p, int label) {
        P it = proof(p);
        argument(label >= 0 && label <= 5);
        if (!it.open.containsKey(label)) {
            throw new NoSuchElementException();
        }
        return formulas.indexOf(it.open.get(label));
    }

    private static void collect(P p, Set<P> into) {
        if (into.add(p)) {
            for (P part : p.from) {
                collect(part, into);
            }
        }
    }

    int uses(int p) {
        Set<P> all = new HashSet<>();
        collect(proof(p), all);
        return all.size();
    }

    private int depth(P p) {
        int depth = 0;
        for (P part : p.from) {
            depth = Math.max(depth, depthAt(proofs.indexOf(part)));
        }
        return depth + 1;
    }

    private final Map<Integer, Integer> depths = new HashMap<>();

    private int depthAt(int p) {
        Integer known = depths.get(p);
        if (known == null) {
            known = depth(proofs.get(p));
            depths.put(p, known);
        }
        return known;
    }

    int depth(int p) {
        proof(p);
        return depthAt(p);
    }

    private static final Map<String, String> APART = Map.of("part", "both", "cases", "either", "apply", "suppose",
            "specialize", "generalize", "reveal", "exhibit");

    int detours(int p) {
        Set<P> all = new HashSet<>();
        collect(proof(p), all);
        int count = 0;
        for (P it : all) {
            String together = APART.get(it.rule);
            if (together != null && it.from.get(0).rule.equals(together)) {
                count++;
            }
        }
        return count;
    }

    private static int reckon(T t, int[] vars) {
        long n;
        switch (t.op()) {
            case 'v':
                n = vars[t.n()];
                break;
            case 'n':
                n = t.n();
                break;
            case '+':
                n = (long) reckon(t.a(), vars) + reckon(t.b(), vars);
                break;
            default:
                n = (long) reckon(t.a(), vars) * reckon(t.b(), vars);
        }
        if (n > 1000000) {
            throw new Refused();
        }
        return (int) n;
    }

    private static boolean truth(F f, int[] vars) {
        if (f.s() != null) {
            int a = reckon(f.s(), vars);
            int b = reckon(f.t(), vars);
            return f.kind() == '=' ? a == b : a < b;
        }
        boolean a = truth(f.f(), vars);
        boolean b = truth(f.g(), vars);
        return f.kind() == '&' ? a && b : f.kind() == '|' ? a || b : !a || b;
    }

    private static Object given(F f, int[] vars) {
        switch (f.kind()) {
            case '&':
                return new Pair(given(f.f(), vars), given(f.g(), vars));
            case '|':
                boolean isFirst = truth(f.f(), vars);
                return new Choice(isFirst, given(isFirst ? f.f() : f.g(), vars));
            case '>':
                Object second = given(f.g(), vars);
                return (Function) (argument, depth) -> second;
            default:
                return null;
        }
    }

    private static Object first(F f) {
        switch (f.kind()) {
            case '&':
                return new Pair(first(f.f()), first(f.g()));
            case '|':
                return new Choice(true, first(f.f()));
            case 'E':
                return new Some(0, first(f.g()));
            case '>':
            case 'A':
                return (Function) (argument, depth) -> first(f.g());
            default:
                return null;
        }
    }

    /** Variables ahead of labels. */
    private static Object[] setting(Object[] outer, int slot, Object value) {
        Object[] inner = outer.clone();
        inner[slot] = value;
        return inner;
    }

    private static int[] vars(Object[] e) {
        int[] vars = new int[6];
        for (int v = 0; v < 6; v++) {
            vars[v] = (Integer) e[v];
        }
        return vars;
    }

    private Object eval(P p, Object[] e, int depth) {
        running++;
        if (running > 1000 || depth > 100) {
            throw new Refused();
        }
        P first = p.from.isEmpty() ? null : p.from.get(0);
        switch (p.rule) {
            case "assume":
                return e[6 + p.detail];
            case "fact":
                return null;
            case "both": {
                Object a = eval(first, e, depth + 1);
                return new Pair(a, eval(p.from.get(1), e, depth + 1));
            }
            case "part": {
                Pair pair = (Pair) eval(first, e, depth + 1);
                return p.detail == 1 ? pair.b() : pair.a();
            }
            case "either":
                return new Choice(p.detail == 1, eval(first, e, depth + 1));
            case "cases": {
                Choice c = (Choice) eval(first, e, depth + 1);
                return eval(p.from.get(c.isFirst() ? 1 : 2), setting(e, 6 + p.detail, c.value()), depth + 1);
            }
            case "suppose":
                return (Function) (x, d) -> eval(first, setting(e, 6 + p.detail, x), d + 1);
            case "generalize":
                return (Function) (x, d) -> eval(first, setting(e, p.detail, x), d + 1);
            case "apply": {
                Function f = (Function) eval(first, e, depth + 1);
                return f.at(eval(p.from.get(1), e, depth + 1), depth);
            }
            case "specialize": {
                Function f = (Function) eval(first, e, depth + 1);
                return f.at(reckon(terms.get(p.detail), vars(e)), depth);
            }
            case "exhibit": {
                int n = reckon(terms.get(p.detail), vars(e));
                return new Some(n, eval(first, e, depth + 1));
            }
            case "reveal": {
                Some s = (Some) eval(first, e, depth + 1);
                Object[] inner = setting(setting(e, first.formula.n(), s.number()), 6 + p.detail, s.value());
                return eval(p.from.get(1), inner, depth + 1);
            }
            case "induct":
                return (Function) (x, d) -> {
                    Object value = eval(first, e, d + 1);
                    for (int n = 0; n < (Integer) x; n++) {
                        Function step = (Function) eval(p.from.get(1), e, d + 1);
                        value = ((Function) step.at(n, d)).at(value, d);
                    }
                    return value;
                };
            case "rewrite":
                return eval(p.from.get(1), e, depth + 1);
            case "decide": {
                boolean isTrue = truth(p.formula.f(), vars(e));
                Function nothing = (x, d) -> null;
                return new Choice(isTrue, isTrue ? given(p.formula.f(), vars(e)) : nothing);
            }
            default:
                return first(p.formula);
        }
    }

    private Object evaluated(P p, Integer input) {
        running = 0;
        Object[] e = new Object[12];
        for (int v = 0; v < 6; v++) {
            e[v] = 0;
        }
        Object value = eval(p, e, 1);
        return input == null ? value : ((Function) value).at(input, 0);
    }

    private Object answered(P p, Integer input) {
        try {
            Object value = evaluated(p, input);
            steps = running;
            return value;
        } catch (Refused refused) {
            steps = running;
            throw new UnsupportedOperationException();
        }
    }

    private static boolean isAllOf(F f, char kind) {
        return f.kind() == 'A' && f.g().kind() == kind;
    }

    int run(int p, int input) {
        P it = proof(p);
        argument(input >= 0 && input <= 30);
        fit(it.open.isEmpty() && isAllOf(it.formula, 'E'));
        return ((Some) answered(it, input)).number();
    }

    int witness(int p) {
        P it = proof(p);
        fit(it.open.isEmpty() && it.formula.kind() == 'E');
        return ((Some) answered(it, null)).number();
    }

    boolean choice(int p, int input) {
        P it = proof(p);
        argument(input >= 0 && input <= 30);
        fit(it.open.isEmpty() && isAllOf(it.formula, '|'));
        return ((Choice) answered(it, input)).isFirst();
    }

    int steps() {
        return steps;
    }

    private static boolean truthIn(F f, int first, int second) {
        try {
            return truth(f, new int[] {first, second, 0, 0, 0, 0});
        } catch (Refused refused) {
            throw new UnsupportedOperationException();
        }
    }

    boolean holds(int f, int first, int second) {
        F it = formula(f);
        argument(first >= 0 && first <= 99 && second >= 0 && second <= 99);
        fit(it.isPlain());
        return truthIn(it, first, second);
    }

    int search(int f, int first) {
        F it = formula(f);
        argument(first >= 0 && first <= 99);
        fit(it.isPlain());
        for (int second = 0; second <= 99; second++) {
            if (truthIn(it, first, second)) {
                return second;
            }
        }
        throw new NoSuchElementException();
    }

    long checksum() {
        long sum = 7;
        for (P p : proofs) {
            sum = sum * 31 + formulas.indexOf(p.formula);
            sum = sum * 31 + bits(p);
        }
        sum = sum * 31 + terms.size();
        return sum * 31 + formulas.size();
    }

    float closedShare() {
        if (proofs.isEmpty()) {
            throw new ArithmeticException();
        }
        int closed = 0;
        for (P p : proofs) {
            closed += p.open.isEmpty() ? 1 : 0;
        }
        return (float) closed / (float) proofs.size();
    }

    double meanDepth() {
        if (proofs.isEmpty()) {
            throw new ArithmeticException();
        }
        int sum = 0;
        for (int p = 0; p < proofs.size(); p++) {
            sum += depthAt(p);
        }
        return (double) sum / (double) proofs.size();
    }

    boolean isSound() {
        for (P p : proofs) {
            if (p.open.isEmpty() && !isSound(p)) {
                return false;
            }
        }
        return true;
    }

    private boolean isSound(P p) {
        F f = p.formula;
        boolean isWithin = isAllOf(f, 'E');
        F some = isWithin ? f.g() : f;
        try {
            if (f.isPlain()) {
                for (int v = 0; v < 6; v++) {
                    if (f.has(v)) {
                        return true;
                    }
                }
                return truth(f, new int[6]);
            }
        } catch (Refused refused) {
            return true;
        }
        if (some.kind() != 'E' || !some.g().isPlain()) {
            return true;
        }
        for (int input = 0; input < (isWithin ? 4 : 1); input++) {
            try {
                Some value = (Some) evaluated(p, isWithin ? (Integer) input : null);
                int[] vars = new int[6];
                if (isWithin) {
                    vars[f.n()] = input;
                }
                vars[some.n()] = value.number();
                if (!truth(some.g(), vars)) {
                    return false;
                }
            } catch (Refused refused) {
                continue;
            }
        }
        return true;
    }
}
