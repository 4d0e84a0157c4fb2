import java.util.function.Consumer;
import java.util.function.Supplier;

/** Counts what was compared and prints what was not as due. */
final class Check {
    private static final int[] DAYS = {0, 29, 44, 45, 200, 359};
    private static final int MONTHS = 12;
    private static int passed = 0;
    private static int failed = 0;

    private Check() {
    }

    static void same(String what, Object got, Object due) {
        if (got.equals(due)) {
            passed++;
        } else {
            failed++;
            System.out.println(what + " answered " + got + ", due is " + due);
        }
    }

    /** The answer as a text, or the exact name of the exception. */
    static String answer(Supplier<Object> call) {
        try {
            return String.valueOf(call.get());
        } catch (RuntimeException e) {
            return e.getClass().getSimpleName();
        }
    }

    /** The call throws exactly this exception, and leaves an office as one on which it was never called. */
    static void refused(String what, Class<?> due, Consumer<BenefitOffice> before, Consumer<BenefitOffice> call) {
        BenefitOffice called = new BenefitOffice();
        BenefitOffice spared = new BenefitOffice();
        before.accept(called);
        before.accept(spared);
        String got = answer(() -> {
            call.accept(called);
            return "nothing thrown";
        });
        same(what, got, due.getSimpleName());
        same(what + ", the state afterwards", state(called), state(spared));
    }

    /** What an office answers to some 400 questions; less than 512 calls, so that it can follow a hundred others. */
    static String state(BenefitOffice office) {
        StringBuilder state = new StringBuilder();
        state.append(office.facts()).append(' ').append(office.paidMonths()).append(' ').append(office.totalPaid());
        state.append(' ').append(office.keptBack()).append(' ').append(answer(office::keptShare));
        state.append(' ').append(answer(office::meanPayment));
        for (int i = 0; i < 8; i++) {
            appendPerson(state, office, i);
        }
        for (int i = 0; i < 4; i++) {
            appendHousehold(state, office, i);
        }
        for (char rule : "acfrtpm".toCharArray()) {
            state.append("\nrule ").append(rule);
            for (int day : DAYS) {
                state.append(' ').append(office.ruleAt(rule, day));
            }
        }
        return state.toString();
    }

    private static void appendPerson(StringBuilder state, BenefitOffice office, int person) {
        state.append("\nperson ").append(person);
        for (int day : DAYS) {
            state.append(' ').append(answer(() -> office.homeOf(person, day)));
        }
    }

    private static void appendHousehold(StringBuilder state, BenefitOffice office, int household) {
        state.append("\nhousehold ").append(household);
        state.append(' ').append(answer(() -> office.balance(household)));
        state.append(' ').append(answer(() -> office.nextChange(household, 0)));
        for (int day : DAYS) {
            state.append(' ').append(answer(() -> office.adults(household, day)));
            state.append(' ').append(answer(() -> office.children(household, day)));
            state.append(' ').append(answer(() -> office.incomeOf(household, day)));
            state.append(' ').append(answer(() -> office.housingAmount(household, day)));
        }
        for (int i = 0; i < MONTHS; i++) {
            int month = i;
            state.append(' ').append(answer(() -> office.payment(household, month)));
            state.append(' ').append(answer(() -> office.paidFor(household, month)));
            state.append(' ').append(answer(() -> office.entitlement(household, month)));
        }
    }

    static void end() {
        System.out.println(passed + " comparisons as due, " + failed + " not");
        if (failed != 0 || passed == 0) {
            System.exit(1);
        }
    }
}
