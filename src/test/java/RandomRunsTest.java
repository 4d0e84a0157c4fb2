import java.lang.reflect.InvocationTargetException;
import java.lang.reflect.Method;
import java.util.ArrayList;
import java.util.Arrays;
import java.util.List;
import java.util.Random;
import java.util.TreeSet;

/** All promises: random runs of 512 calls, each call answered by the class and by PlainOffice. */
public final class RandomRunsTest {
    private static final int RUNS = 400;
    private static final int CALLS = 512;

    /** A method, how often it is called, and what its arguments are: see argument(). */
    private record Call(String name, int weight, String arguments) {
    }

    private static final List<Call> CALLS_OF_THE_FACE = List.of(
            new Call("addPerson", 4, "A"), new Call("addHousehold", 2, ""), new Call("move", 14, "PHD"),
            new Call("setIncome", 12, "PND"), new Call("setRent", 8, "QND"), new Call("setRule", 12, "RVD"),
            new Call("takeBackMove", 6, "PD"), new Call("takeBackIncome", 5, "PD"), new Call("takeBackRule", 6, "RD"),
            new Call("pay", 4, ""), new Call("paidMonths", 1, ""), new Call("payment", 3, "QM"),
            new Call("paidFor", 5, "QM"), new Call("balance", 3, "Q"), new Call("isSettled", 3, "Q"),
            new Call("totalPaid", 2, ""), new Call("keptBack", 2, ""), new Call("homeOf", 3, "PD"),
            new Call("ruleAt", 3, "RD"), new Call("adults", 3, "QD"), new Call("children", 3, "QD"),
            new Call("incomeOf", 3, "QD"), new Call("adultAmount", 4, "QD"), new Call("childAmount", 4, "QD"),
            new Call("housingAmount", 4, "QD"), new Call("reason", 5, "QD"), new Call("nextChange", 4, "QD"),
            new Call("entitlement", 5, "QM"), new Call("entitlementByDays", 3, "QM"), new Call("facts", 2, ""),
            new Call("keptShare", 2, ""), new Call("meanPayment", 2, ""));

    private static final TreeSet<String> seen = new TreeSet<>();

    public static void main(String[] args) throws Exception {
        for (int seed = 0; seed < RUNS; seed++) {
            compareRun(new Random(seed), seed);
        }
        for (String due : expectedSights()) {
            Check.same("the random runs saw " + due, seen.contains(due), true);
        }
        Check.end();
    }

    /** Without these the runs would compare too little. */
    private static List<String> expectedSights() {
        List<String> due = new ArrayList<>(List.of("reason n", "reason t", "reason m", "reason b", "reason f",
                "kept back", "isSettled true", "isSettled false", "pay IllegalStateException",
                "takeBackRule UnsupportedOperationException", "keptShare ArithmeticException",
                "meanPayment ArithmeticException", "payment NoSuchElementException",
                "nextChange NoSuchElementException", "addPerson IllegalStateException",
                "addHousehold IllegalStateException"));
        for (Call call : CALLS_OF_THE_FACE) {
            due.add(call.name);
        }
        return due;
    }

    private static void compareRun(Random random, int seed) throws Exception {
        BenefitOffice office = new BenefitOffice();
        PlainOffice plain = new PlainOffice();
        for (int i = 0; i < CALLS; i++) {
            Call call = i < 12 && random.nextInt(3) > 0 ? CALLS_OF_THE_FACE.get(random.nextInt(3)) : choose(random);
            Object[] arguments = new Object[call.arguments.length()];
            for (int k = 0; k < arguments.length; k++) {
                arguments[k] = argument(call.arguments.charAt(k), random);
            }
            Object due = answer(plain, call, arguments);
            String what = "run " + seed + ", call " + i + ": " + call.name + Arrays.toString(arguments);
            Check.same(what, answer(office, call, arguments), due);
            note(call, due);
        }
    }

    private static void note(Call call, Object answer) {
        seen.add(call.name);
        seen.add(call.name + " " + answer);
        if (call.name.equals("keptBack") && !answer.equals(0L)) {
            seen.add("kept back");
        }
    }

    private static Call choose(Random random) {
        int all = CALLS_OF_THE_FACE.stream().mapToInt(Call::weight).sum();
        int left = random.nextInt(all);
        for (Call call : CALLS_OF_THE_FACE) {
            left -= call.weight;
            if (left < 0) {
                return call;
            }
        }
        throw new IllegalStateException("the weights are wrong");
    }

    private static Object answer(Object office, Call call, Object[] arguments) throws Exception {
        Class<?>[] types = new Class<?>[arguments.length];
        for (int i = 0; i < types.length; i++) {
            types[i] = arguments[i] instanceof Character ? char.class : int.class;
        }
        Method method = office.getClass().getDeclaredMethod(call.name, types);
        try {
            return method.invoke(office, arguments);
        } catch (InvocationTargetException e) {
            return e.getCause().getClass().getSimpleName();
        }
    }

    /** P a person, H a household or none, Q a household, D a day, M a month, R a rule, V a value, N a number, A an age. */
    private static Object argument(char kind, Random random) {
        if (random.nextInt(60) == 0) {
            return kind == 'R' ? (Object) (char) random.nextInt(65536) : (Object) wrong(random);
        }
        switch (kind) {
            case 'P': return random.nextInt(10) == 0 ? random.nextInt(10) : random.nextInt(4);
            case 'H': return random.nextInt(6) - 1;
            case 'Q': return random.nextInt(4);
            case 'D': return day(random);
            case 'M': return random.nextInt(random.nextBoolean() ? 5 : 12);
            case 'R': return "acfrtpm".charAt(random.nextInt(7));
            case 'V': return random.nextInt(random.nextInt(4) == 0 ? 1010 : 101);
            case 'N': return random.nextInt(random.nextInt(3) == 0 ? 1010 : 120);
            default: return random.nextInt(3) == 0 ? random.nextInt(1010) : random.nextInt(90);
        }
    }

    private static int day(Random random) {
        switch (random.nextInt(4)) {
            case 0: return random.nextInt(12) * 30 + random.nextInt(3) - 1;
            case 1: return random.nextInt(362);
            case 2: return random.nextInt(8);
            default: return random.nextInt(20) * 9;
        }
    }

    private static int wrong(Random random) {
        int[] numbers = {-1, -2, 8, 12, 100, 101, 360, 1000, Integer.MIN_VALUE, Integer.MAX_VALUE, random.nextInt()};
        return numbers[random.nextInt(numbers.length)];
    }
}
