import java.lang.reflect.InvocationTargetException;
import java.lang.reflect.Method;
import java.util.HashMap;
import java.util.Map;
import java.util.Random;

/** Random runs of calls, each answer held against the model's; most rules are told what the model finds to fit. */
public final class ModelTest {
    /** The calls, a letter for each argument: term, formula, proof, variable, label, number, input, boolean, way. */
    private static final String[] CALLS = {
        "variable v", "number n", "plus tt", "times tt", "areSame tt",
        "equal tt", "less tt", "join fwf", "bind wvf", "kindOf f", "within fb", "isFree fv", "put fvt",
        "assume lf", "fact f", "both pp", "part pb", "either pfb", "cases pppl", "suppose plf", "apply pp",
        "generalize pv", "specialize pt", "exhibit pft", "reveal ppl", "induct ppf", "rewrite ppfv", "decide f",
        "absurd pf",
        "formulaOf p", "openLabels p", "labelOf pl", "uses p", "depth p", "detours p",
        "run pi", "witness p", "choice pi", "steps ", "holds fnn", "search fn",
        "checksum ", "closedShare ", "meanDepth ", "isSound "
    };
    private static final int FIRST_RULE = 13;
    private static final int FIRST_QUESTION = 29;
    private static final char[] WAYS = {'&', '|', '>', 'A', 'E', '=', '<', 'x'};

    private final Random random;
    private final WitnessRow row = new WitnessRow();
    private final Model model = new Model();
    private final Map<String, Integer> succeeded;
    private final StringBuilder story = new StringBuilder();

    private ModelTest(long seed, Map<String, Integer> succeeded) {
        random = new Random(seed * 0x9E3779B97F4A7C15L);
        this.succeeded = succeeded;
    }

    private static Class<?> typeOf(char letter) {
        return letter == 'b' ? boolean.class : letter == 'w' ? char.class : int.class;
    }

    private static String answer(Object target, String name, String letters, Object[] arguments) {
        Class<?>[] types = new Class<?>[letters.length()];
        for (int i = 0; i < types.length; i++) {
            types[i] = typeOf(letters.charAt(i));
        }
        try {
            Method method = target.getClass().getDeclaredMethod(name, types);
            Object answer = method.invoke(target, arguments);
            return String.valueOf(answer instanceof Character ? (Object) (int) (Character) answer : answer);
        } catch (InvocationTargetException e) {
            return "throws." + e.getCause().getClass().getSimpleName();
        } catch (ReflectiveOperationException e) {
            throw new IllegalStateException(e);
        }
    }

    private int below(int size) {
        int odd = random.nextInt(60);
        if (odd == 0) {
            return size + random.nextInt(2);
        }
        if (odd == 1) {
            return -1;
        }
        // The newest ones are the likelier ones.
        return size == 0 ? 0 : Math.max(random.nextInt(size), random.nextInt(size));
    }

    private Object argument(char letter) {
        switch (letter) {
            case 't':
                return below(model.terms.size());
            case 'f':
                return below(model.formulas.size());
            case 'p':
                return below(model.proofs.size());
            case 'v':
                return below(random.nextInt(4) == 0 ? 6 : 2);
            case 'l':
                return below(random.nextInt(3) == 0 ? 6 : 2);
            case 'n':
                return random.nextBoolean() ? random.nextInt(4) : below(100);
            case 'i':
                return random.nextBoolean() ? random.nextInt(5) : below(31);
            case 'b':
                return random.nextBoolean();
            default:
                return WAYS[random.nextInt(40) == 0 ? random.nextInt(WAYS.length) : random.nextInt(5)];
        }
    }

    private Object[] arguments(String letters) {
        Object[] arguments = new Object[letters.length()];
        for (int i = 0; i < arguments.length; i++) {
            arguments[i] = argument(letters.charAt(i));
        }
        return arguments;
    }

    private boolean call(String name, String letters, Object[] arguments) {
        String want = answer(model, name, letters, arguments);
        String got = answer(row, name, letters, arguments);
        if (!want.startsWith("throws")) {
            succeeded.merge(name, 1, Integer::sum);
        }
        story.append(name).append(java.util.Arrays.toString(arguments)).append(" = ").append(want).append('\n');
        if (!want.equals(got)) {
            System.out.println(story);
        }
        Check.due(name + java.util.Arrays.toString(arguments), want, () -> got);
        return want.equals(got);
    }

    private boolean randomCall(int from, int to) {
        String[] call = CALLS[from + random.nextInt(to - from)].split(" ", -1);
        Object[] arguments = arguments(call[1]);
        boolean isToFit = from == FIRST_RULE && random.nextInt(8) > 0;
        for (int turn = 0; isToFit && turn < 60; turn++) {
            if (!answer(model.copy(), call[0], call[1], arguments).startsWith("throws")) {
                break;
            }
            arguments = arguments(call[1]);
        }
        return call(call[0], call[1], arguments);
    }

    /** Some all for which induct() may fit, with what is assumed for it. */
    private boolean prepareInduction() {
        for (int f = 0; f < model.formulas.size(); f++) {
            Model.F all = model.formulas.get(f);
            if (all.kind() == 'A' && random.nextInt(3) == 0) {
                int v = all.n();
                int body = model.formulas.indexOf(all.g());
                int zero = numberOf(answer(model.copy(), "number", "n", new Object[] {0}));
                boolean isRight = call("number", "n", new Object[] {0});
                Object variable = numberOf(answer(model.copy(), "variable", "v", new Object[] {v}));
                isRight &= call("variable", "v", new Object[] {v});
                Object one = numberOf(answer(model.copy(), "number", "n", new Object[] {1}));
                isRight &= call("number", "n", new Object[] {1});
                Object next = numberOf(answer(model.copy(), "plus", "tt", new Object[] {variable, one}));
                isRight &= call("plus", "tt", new Object[] {variable, one});
                int start = numberOf(answer(model.copy(), "put", "fvt", new Object[] {body, v, zero}));
                isRight &= call("put", "fvt", new Object[] {body, v, zero});
                int after = numberOf(answer(model.copy(), "put", "fvt", new Object[] {body, v, next}));
                isRight &= call("put", "fvt", new Object[] {body, v, next});
                isRight &= call("assume", "lf", new Object[] {0, start});
                int first = model.proofs.size() - 1;
                isRight &= call("assume", "lf", new Object[] {1, body});
                isRight &= call("assume", "lf", new Object[] {2, after});
                isRight &= call("suppose", "plf", new Object[] {model.proofs.size() - 1, 1, body});
                isRight &= call("suppose", "plf", new Object[] {model.proofs.size() - 1, 2, after});
                isRight &= call("generalize", "pv", new Object[] {model.proofs.size() - 2, v});
                isRight &= call("induct", "ppf", new Object[] {first, model.proofs.size() - 1, f});
                return isRight;
            }
        }
        return true;
    }

    /** A program with an induction in it: of all x there is some y that is x + x + start, reckoned by the one ahead. */
    private boolean tellProgram() {
        int x = random.nextInt(2);
        int y = 1 - x;
        int start = random.nextInt(3);
        int vx = told("variable", x);
        int vy = told("variable", y);
        int one = told("number", 1);
        int two = told("plus", one, one);
        int zero = told("number", 0);
        int startTerm = told("number", start);
        int next = told("plus", vx, one);
        int double0 = told("plus", told("plus", vx, vx), startTerm);
        int body = told("bind", 'E', y, told("equal", vy, double0));
        int all = told("bind", 'A', x, body);
        int atZero = told("put", body, x, zero);
        int firstFact = told("fact", told("put", model.formulas.indexOf(formula(atZero).g()), y, startTerm));
        int first = told("exhibit", firstFact, atZero, startTerm);
        int hypothesis = told("assume", 1, model.formulas.indexOf(formula(body).g()));
        int after = told("put", body, x, next);
        int z = told("variable", 2);
        int sumY = told("plus", vy, two);
        int same = told("equal", sumY, told("plus", z, two));
        int fact = told("fact", told("equal", sumY, sumY));
        int rewritten = told("rewrite", hypothesis, fact, same, 2);
        int asNext = told("put", model.formulas.indexOf(formula(after).g()), y, sumY);
        int sums = told("fact", told("equal", told("plus", double0, two), secondTerm(asNext)));
        int equation = told("rewrite", sums, rewritten, told("equal", sumY, z), 2);
        int shown = told("exhibit", equation, after, sumY);
        int outer = told("assume", 0, body);
        int revealed = told("reveal", outer, shown, 1);
        int step = told("generalize", told("suppose", revealed, 0, body), x);
        int program = told("induct", first, step, all);
        boolean isRight = call("run", "pi", new Object[] {program, random.nextInt(31)});
        isRight &= call("steps", "", new Object[] {});
        return isRight;
    }

    private Model.F formula(int f) {
        boolean isThere = f >= 0 && f < model.formulas.size();
        return isThere ? model.formulas.get(f) : new Model.F('=', 0, null, null, null, null);
    }

    private int secondTerm(int f) {
        return model.terms.indexOf(formula(f).t());
    }

    private int told(String name, Object... arguments) {
        for (String each : CALLS) {
            String[] call = each.split(" ", -1);
            if (call[0].equals(name)) {
                Object[] fitting = new Object[call[1].length()];
                System.arraycopy(arguments, 0, fitting, 0, fitting.length);
                int number = numberOf(answer(model.copy(), name, call[1], fitting));
                call(name, call[1], fitting);
                return number;
            }
        }
        return -1;
    }

    private static int numberOf(String answer) {
        return answer.startsWith("throws") ? -1 : Integer.parseInt(answer);
    }

    private boolean askAll() {
        boolean isRight = call("isSound", "", new Object[0]) && call("checksum", "", new Object[0]);
        for (int f = 0; f < model.formulas.size(); f++) {
            isRight &= call("within", "fb", new Object[] {f, true}) && call("within", "fb", new Object[] {f, false});
        }
        for (int p = 0; p < model.proofs.size(); p++) {
            for (String each : new String[] {"formulaOf", "openLabels", "uses", "depth", "detours", "witness"}) {
                isRight &= call(each, "p", new Object[] {p}) && call("steps", "", new Object[0]);
            }
            for (int input = 0; input < 31; input += 10) {
                isRight &= call("run", "pi", new Object[] {p, input}) && call("steps", "", new Object[0]);
                isRight &= call("choice", "pi", new Object[] {p, input}) && call("steps", "", new Object[0]);
            }
        }
        return isRight;
    }

    private boolean live() {
        boolean isRight = true;
        int style = random.nextInt(4);
        if (style == 0) {
            isRight = tellProgram();
        }
        for (int turn = 0; isRight && turn < 260; turn++) {
            int odd = random.nextInt(10);
            if (odd == 9 && style == 1 && random.nextInt(4) == 0) {
                isRight = prepareInduction();
            } else if (odd < 2 || turn < 12) {
                isRight = randomCall(0, FIRST_RULE);
            } else if (odd < 8) {
                isRight = randomCall(FIRST_RULE, FIRST_QUESTION);
            } else {
                isRight = randomCall(FIRST_QUESTION, CALLS.length);
            }
        }
        return isRight && askAll();
    }

    public static void main(String[] args) {
        int runs = args.length > 0 ? Integer.parseInt(args[0]) : 400;
        long seed = args.length > 1 ? Long.parseLong(args[1]) : 20261119;
        Map<String, Integer> succeeded = new HashMap<>();
        for (int run = 0; run < runs; run++) {
            if (!new ModelTest(seed + run, succeeded).live()) {
                System.out.println("in the run with the seed " + (seed + run));
                break;
            }
        }
        for (String call : CALLS) {
            String name = call.split(" ", -1)[0];
            Check.due("calls of " + name + " that succeed", true, () -> succeeded.getOrDefault(name, 0) > runs / 20);
        }
        if (args.length > 0) {
            System.out.println(new java.util.TreeMap<>(succeeded));
        }
        Check.end();
    }
}
