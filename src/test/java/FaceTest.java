import java.lang.reflect.Constructor;
import java.lang.reflect.Field;
import java.lang.reflect.Method;
import java.lang.reflect.Modifier;
import java.util.Arrays;
import java.util.Set;
import java.util.TreeSet;
import java.util.stream.Collectors;

/** The public face: exactly the members that the document lists, and no other that a caller could reach. */
public final class FaceTest {
    private static final String BOUNDS = " throws IndexOutOfBoundsException";
    private static final String BOUNDS_ARGUMENT = BOUNDS + " IllegalArgumentException";
    private static final String BOUNDS_ELEMENT = BOUNDS + " NoSuchElementException";
    private static final String ELEMENT = " throws NoSuchElementException";
    private static final String STATE = " throws IllegalStateException";
    private static final String ARITHMETIC = " throws ArithmeticException";

    private static final Set<String> FACE = new TreeSet<>(Set.of(
            "int addPerson(int) throws IllegalArgumentException IllegalStateException",
            "int addHousehold()" + STATE,
            "int move(int int int)" + BOUNDS_ARGUMENT,
            "int setIncome(int int int)" + BOUNDS_ARGUMENT,
            "int setRent(int int int)" + BOUNDS_ARGUMENT,
            "int setRule(char int int)" + ELEMENT + " IllegalArgumentException",
            "int takeBackMove(int int)" + BOUNDS_ELEMENT,
            "int takeBackIncome(int int)" + BOUNDS_ELEMENT,
            "int takeBackRule(char int)" + ELEMENT + " UnsupportedOperationException",
            "int pay()" + STATE,
            "int paidMonths()",
            "int payment(int int)" + BOUNDS_ELEMENT,
            "int paidFor(int int)" + BOUNDS,
            "int balance(int)" + BOUNDS,
            "boolean isSettled(int)" + BOUNDS,
            "long totalPaid()",
            "long keptBack()",
            "int homeOf(int int)" + BOUNDS_ARGUMENT,
            "int ruleAt(char int)" + ELEMENT + " IllegalArgumentException",
            "int adults(int int)" + BOUNDS_ARGUMENT,
            "int children(int int)" + BOUNDS_ARGUMENT,
            "int incomeOf(int int)" + BOUNDS_ARGUMENT,
            "int adultAmount(int int)" + BOUNDS_ARGUMENT,
            "int childAmount(int int)" + BOUNDS_ARGUMENT,
            "int housingAmount(int int)" + BOUNDS_ARGUMENT,
            "char reason(int int)" + BOUNDS_ARGUMENT,
            "int nextChange(int int)" + BOUNDS_ARGUMENT + " NoSuchElementException",
            "int entitlement(int int)" + BOUNDS,
            "int entitlementByDays(int int)" + BOUNDS,
            "int facts()",
            "float keptShare()" + ARITHMETIC,
            "double meanPayment()" + ARITHMETIC));

    public static void main(String[] args) {
        Class<?> office = BenefitOffice.class;
        Check.same("the class is final", Modifier.isFinal(office.getModifiers()), true);
        Check.same("the public methods", publicMethods(office), FACE);
        Check.same("the constructors", constructors(office), "public BenefitOffice()");
        Check.same("reachable members beside", reachableBeside(office), new TreeSet<String>());
        Check.same("private methods with public names", doubledNames(office), new TreeSet<String>());
        Check.end();
    }

    private static Set<String> publicMethods(Class<?> office) {
        Set<String> found = new TreeSet<>();
        for (Method method : office.getDeclaredMethods()) {
            if (Modifier.isPublic(method.getModifiers())) {
                found.add(signature(method));
            }
        }
        return found;
    }

    private static String signature(Method method) {
        String thrown = names(method.getExceptionTypes());
        return method.getReturnType().getSimpleName() + " " + method.getName() + "(" + names(method.getParameterTypes())
                + ")" + (thrown.isEmpty() ? "" : " throws " + thrown);
    }

    private static String names(Class<?>[] types) {
        return Arrays.stream(types).map(Class::getSimpleName).collect(Collectors.joining(" "));
    }

    private static String constructors(Class<?> office) {
        return Arrays.stream(office.getDeclaredConstructors()).map(Constructor::toString).collect(Collectors.joining(" "));
    }

    private static Set<String> reachableBeside(Class<?> office) {
        Set<String> found = new TreeSet<>();
        for (Method method : office.getDeclaredMethods()) {
            if (!Modifier.isPrivate(method.getModifiers()) && !Modifier.isPublic(method.getModifiers())) {
                found.add(method.getName());
            }
        }
        for (Field field : office.getDeclaredFields()) {
            if (!Modifier.isPrivate(field.getModifiers())) {
                found.add(field.getName());
            }
        }
        return found;
    }

    private static Set<String> doubledNames(Class<?> office) {
        Set<String> open = new TreeSet<>();
        Set<String> hidden = new TreeSet<>();
        for (Method method : office.getDeclaredMethods()) {
            (Modifier.isPublic(method.getModifiers()) ? open : hidden).add(method.getName());
        }
        hidden.retainAll(open);
        return hidden;
    }
}
