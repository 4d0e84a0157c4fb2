import java.util.ArrayList;
import java.util.List;
import java.util.function.Consumer;
import java.util.function.Supplier;

/** Counts what was compared and prints what was not as due. */
final class Check {
    private static int passed = 0;
    private static int failed = 0;

    private Check() {
    }

    static void same(String what, Object got, Object due) {
        if (got.equals(due)) {
            passed++;
        } else {
            failed++;
            System.out.println(what + " answered " + got + ", due is " + due);
        }
    }

    /** The answer as a text, or the exact name of the exception. */
    static String answer(Supplier<Object> call) {
        try {
            return String.valueOf(call.get());
        } catch (RuntimeException e) {
            return e.getClass().getSimpleName();
        }
    }

    /** The exact name of the exception that the call throws, or a text that is no name. */
    static String thrown(BenefitOffice office, Consumer<BenefitOffice> call) {
        return answer(() -> {
            call.accept(office);
            return "nothing thrown";
        });
    }

    /** The call throws exactly this exception, and leaves an office as one on which it was never called. */
    static void refused(String what, Class<?> due, Consumer<BenefitOffice> before, Consumer<BenefitOffice> call) {
        refused(what, due, before, call, states(before));
    }

    /** The same, for a call after which the states are due that states() tells. */
    static void refused(String what, Class<?> due, Consumer<BenefitOffice> before, Consumer<BenefitOffice> call,
            List<String> dueStates) {
        for (int i = 0; i < Probes.ALL.size(); i++) {
            BenefitOffice called = new BenefitOffice();
            before.accept(called);
            same(what, thrown(called, call), due.getSimpleName());
            same(what + ", the state afterwards", Probes.ALL.get(i).apply(called), dueStates.get(i));
        }
    }

    /** What each probe says of an office of its own. */
    static List<String> states(Consumer<BenefitOffice> before) {
        List<String> states = new ArrayList<>();
        for (int i = 0; i < Probes.ALL.size(); i++) {
            BenefitOffice office = new BenefitOffice();
            before.accept(office);
            states.add(Probes.ALL.get(i).apply(office));
        }
        return states;
    }

    static void end() {
        System.out.println(passed + " comparisons as due, " + failed + " not");
        if (failed != 0 || passed == 0) {
            System.exit(1);
        }
    }
}
