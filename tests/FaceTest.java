import java.lang.reflect.Constructor;
import java.lang.reflect.Field;
import java.lang.reflect.Method;
import java.lang.reflect.Modifier;
import java.util.Set;
import java.util.TreeSet;

/** The public face, and promise 1. */
public final class FaceTest {
    private static final String[] FACE = {
        "int variable(int) IllegalArgumentException IllegalStateException",
        "int number(int) IllegalArgumentException IllegalStateException",
        "int plus(int,int) IndexOutOfBoundsException UnsupportedOperationException IllegalStateException",
        "int times(int,int) IndexOutOfBoundsException UnsupportedOperationException IllegalStateException",
        "boolean areSame(int,int) IndexOutOfBoundsException",
        "int equal(int,int) IndexOutOfBoundsException UnsupportedOperationException IllegalStateException",
        "int less(int,int) IndexOutOfBoundsException UnsupportedOperationException IllegalStateException",
        "int join(int,char,int) IndexOutOfBoundsException IllegalArgumentException UnsupportedOperationException"
                + " IllegalStateException",
        "int bind(char,int,int) IndexOutOfBoundsException IllegalArgumentException UnsupportedOperationException"
                + " IllegalStateException",
        "char kindOf(int) IndexOutOfBoundsException",
        "int within(int,boolean) IndexOutOfBoundsException",
        "boolean isFree(int,int) IndexOutOfBoundsException IllegalArgumentException",
        "int put(int,int,int) IndexOutOfBoundsException IllegalArgumentException UnsupportedOperationException"
                + " IllegalStateException",
        "int assume(int,int) IndexOutOfBoundsException IllegalArgumentException IllegalStateException",
        "int fact(int) IndexOutOfBoundsException UnsupportedOperationException IllegalStateException",
        "int both(int,int) IndexOutOfBoundsException UnsupportedOperationException IllegalStateException",
        "int part(int,boolean) IndexOutOfBoundsException UnsupportedOperationException IllegalStateException",
        "int either(int,int,boolean) IndexOutOfBoundsException UnsupportedOperationException IllegalStateException",
        "int cases(int,int,int,int) IndexOutOfBoundsException IllegalArgumentException"
                + " UnsupportedOperationException IllegalStateException",
        "int suppose(int,int,int) IndexOutOfBoundsException IllegalArgumentException UnsupportedOperationException"
                + " IllegalStateException",
        "int apply(int,int) IndexOutOfBoundsException UnsupportedOperationException IllegalStateException",
        "int generalize(int,int) IndexOutOfBoundsException IllegalArgumentException UnsupportedOperationException"
                + " IllegalStateException",
        "int specialize(int,int) IndexOutOfBoundsException UnsupportedOperationException IllegalStateException",
        "int exhibit(int,int,int) IndexOutOfBoundsException UnsupportedOperationException IllegalStateException",
        "int reveal(int,int,int) IndexOutOfBoundsException IllegalArgumentException UnsupportedOperationException"
                + " IllegalStateException",
        "int induct(int,int,int) IndexOutOfBoundsException UnsupportedOperationException IllegalStateException",
        "int rewrite(int,int,int,int) IndexOutOfBoundsException IllegalArgumentException"
                + " UnsupportedOperationException IllegalStateException",
        "int decide(int) IndexOutOfBoundsException UnsupportedOperationException IllegalStateException",
        "int absurd(int,int) IndexOutOfBoundsException UnsupportedOperationException IllegalStateException",
        "int formulaOf(int) IndexOutOfBoundsException",
        "int openLabels(int) IndexOutOfBoundsException",
        "int labelOf(int,int) IndexOutOfBoundsException IllegalArgumentException NoSuchElementException",
        "int uses(int) IndexOutOfBoundsException",
        "int depth(int) IndexOutOfBoundsException",
        "int detours(int) IndexOutOfBoundsException",
        "int run(int,int) IndexOutOfBoundsException IllegalArgumentException UnsupportedOperationException",
        "int witness(int) IndexOutOfBoundsException UnsupportedOperationException",
        "boolean choice(int,int) IndexOutOfBoundsException IllegalArgumentException UnsupportedOperationException",
        "int steps()",
        "boolean holds(int,int,int) IndexOutOfBoundsException IllegalArgumentException"
                + " UnsupportedOperationException",
        "int search(int,int) IndexOutOfBoundsException IllegalArgumentException UnsupportedOperationException"
                + " NoSuchElementException",
        "long checksum()",
        "float closedShare() ArithmeticException",
        "double meanDepth() ArithmeticException",
        "boolean isSound()"
    };

    private static String told(Method method) {
        StringBuilder text = new StringBuilder();
        text.append(method.getReturnType()).append(' ').append(method.getName()).append('(');
        for (int i = 0; i < method.getParameterCount(); i++) {
            text.append(i > 0 ? "," : "").append(method.getParameterTypes()[i]);
        }
        text.append(')');
        for (Class<?> type : method.getExceptionTypes()) {
            text.append(' ').append(type.getSimpleName());
        }
        return text.toString();
    }

    /** Rule 1 of LANGUAGE.md: nothing to see but the face, and no private method with a name of it. */
    private static void face() {
        Set<String> got = new TreeSet<>();
        Set<String> names = new TreeSet<>();
        for (Method method : WitnessRow.class.getDeclaredMethods()) {
            if (!Modifier.isPrivate(method.getModifiers())) {
                Check.due(method + " is public", true, () -> Modifier.isPublic(method.getModifiers()));
                got.add(told(method));
                names.add(method.getName());
            }
        }
        Check.due("the face", new TreeSet<>(Set.of(FACE)), () -> got);
        for (Method method : WitnessRow.class.getDeclaredMethods()) {
            if (Modifier.isPrivate(method.getModifiers())) {
                Check.due("a private " + method.getName(), false, () -> names.contains(method.getName()));
            }
        }
        for (Field field : WitnessRow.class.getDeclaredFields()) {
            Check.due(field + " is private", true, () -> Modifier.isPrivate(field.getModifiers()));
        }
        for (Constructor<?> constructor : WitnessRow.class.getDeclaredConstructors()) {
            Check.due(constructor + " is told", 0, constructor::getParameterCount);
        }
        for (Class<?> inside : WitnessRow.class.getDeclaredClasses()) {
            int modifiers = inside.getModifiers();
            Check.due(inside + " is static", true, () -> Modifier.isStatic(modifiers) && !Modifier.isPublic(modifiers));
            for (Method method : inside.getDeclaredMethods()) {
                Check.due("a " + method.getName() + " of " + inside, false, () -> names.contains(method.getName()));
            }
        }
        Check.due("final", true, () -> Modifier.isFinal(WitnessRow.class.getModifiers()));
    }

    private static void newObject() {
        WitnessRow row = new WitnessRow();
        Check.due("checksum of a new one", 7 * 31 * 31, row::checksum);
        Check.due("steps of a new one", 0, row::steps);
        Check.due("isSound of a new one", true, row::isSound);
        Check.noIndex("a term of a new one", () -> row.areSame(0, 0));
        Check.noIndex("a formula of a new one", () -> row.kindOf(0));
        Check.noIndex("a proof of a new one", () -> row.formulaOf(0));
        row.number(3);
        Check.due("rows are apart", 7 * 31 * 31, () -> new WitnessRow().checksum());
    }

    public static void main(String[] args) {
        face();
        newObject();
        Check.end();
    }
}
