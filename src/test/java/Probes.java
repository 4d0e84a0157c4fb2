import java.util.List;
import java.util.function.Function;
import java.util.function.Supplier;

/**
 * What an office answers: each probe asks some 400 calls at most, so that it can follow a hundred others, and each is
 * made for an office of its own, as some of them change it.
 */
final class Probes {
    static final List<Function<BenefitOffice, String>> ALL = List.of(
            Probes::sums, Probes::months, Probes::amounts, Probes::toldBefore, Probes::takenBack, Probes::added,
            Probes::paidOn);

    private static final int[] DAYS = {0, 1, 29, 30, 44, 45, 200, 358, 359};
    private static final String RULES = "acfrtpm";
    private static final int PERSONS = 8;
    private static final int HOUSEHOLDS = 4;
    private static final int MONTHS = 12;

    private Probes() {
    }

    private static void add(StringBuilder text, Supplier<Object> call) {
        text.append(' ').append(Check.answer(call));
    }

    /** The sums, the homes and the rules. */
    private static String sums(BenefitOffice office) {
        StringBuilder text = new StringBuilder();
        addSums(text, office);
        for (int day : DAYS) {
            for (int i = 0; i < PERSONS; i++) {
                int person = i;
                add(text, () -> office.homeOf(person, day));
            }
            for (char rule : RULES.toCharArray()) {
                add(text, () -> office.ruleAt(rule, day));
            }
        }
        return text.toString();
    }

    private static void addSums(StringBuilder text, BenefitOffice office) {
        add(text, office::facts);
        add(text, office::paidMonths);
        add(text, office::totalPaid);
        add(text, office::keptBack);
        add(text, office::keptShare);
        add(text, office::meanPayment);
    }

    /** What is asked of households and their months, and who lives in them. */
    private static String months(BenefitOffice office) {
        StringBuilder text = new StringBuilder();
        for (int i = 0; i < HOUSEHOLDS; i++) {
            int household = i;
            add(text, () -> office.balance(household));
            add(text, () -> office.isSettled(household));
            for (int k = 0; k < MONTHS; k++) {
                int month = k;
                add(text, () -> office.payment(household, month));
                add(text, () -> office.paidFor(household, month));
                add(text, () -> office.entitlement(household, month));
                add(text, () -> office.entitlementByDays(household, month));
            }
            for (int day : DAYS) {
                add(text, () -> office.adults(household, day));
                add(text, () -> office.children(household, day));
                add(text, () -> office.incomeOf(household, day));
            }
        }
        return text.toString();
    }

    private static String amounts(BenefitOffice office) {
        StringBuilder text = new StringBuilder();
        for (int i = 0; i < HOUSEHOLDS; i++) {
            int household = i;
            for (int day : DAYS) {
                add(text, () -> office.adultAmount(household, day));
                add(text, () -> office.childAmount(household, day));
                add(text, () -> office.housingAmount(household, day));
                add(text, () -> office.reason(household, day));
                add(text, () -> office.nextChange(household, day));
            }
        }
        return text.toString();
    }

    /** Tells facts from the last day down to the first one: each answers what held before. */
    private static String toldBefore(BenefitOffice office) {
        StringBuilder text = new StringBuilder();
        for (int i = DAYS.length - 1; i >= 0; i--) {
            int day = DAYS[i];
            for (int k = 0; k < PERSONS; k++) {
                int person = k;
                add(text, () -> office.move(person, -1, day));
                add(text, () -> office.setIncome(person, 1, day));
            }
            for (int k = 0; k < HOUSEHOLDS; k++) {
                int household = k;
                add(text, () -> office.setRent(household, 1, day));
            }
            for (char rule : RULES.toCharArray()) {
                add(text, () -> office.setRule(rule, 1, day));
            }
        }
        add(text, office::facts);
        return text.toString();
    }

    private static String takenBack(BenefitOffice office) {
        StringBuilder text = new StringBuilder();
        for (int day : DAYS) {
            for (int k = 0; k < PERSONS; k++) {
                int person = k;
                add(text, () -> office.takeBackMove(person, day));
                add(text, () -> office.takeBackIncome(person, day));
            }
            for (char rule : RULES.toCharArray()) {
                add(text, () -> office.takeBackRule(rule, day));
            }
        }
        add(text, office::facts);
        return text.toString();
    }

    private static String added(BenefitOffice office) {
        StringBuilder text = new StringBuilder();
        for (int i = 0; i <= PERSONS; i++) {
            add(text, () -> office.addPerson(0));
        }
        for (int i = 0; i <= HOUSEHOLDS; i++) {
            add(text, () -> office.addHousehold());
        }
        for (int i = 0; i < PERSONS; i++) {
            int person = i;
            add(text, () -> office.move(person, 3, 0));
        }
        for (int day : DAYS) {
            add(text, () -> office.adults(3, day));
            add(text, () -> office.incomeOf(3, day));
            add(text, () -> office.nextChange(3, day));
        }
        return text.toString();
    }

    /** The runs that are left. */
    private static String paidOn(BenefitOffice office) {
        StringBuilder text = new StringBuilder();
        for (int i = 0; i <= MONTHS; i++) {
            add(text, office::pay);
        }
        addSums(text, office);
        for (int i = 0; i < HOUSEHOLDS; i++) {
            int household = i;
            for (int k = 0; k < MONTHS; k++) {
                int month = k;
                add(text, () -> office.payment(household, month));
                add(text, () -> office.paidFor(household, month));
            }
        }
        return text.toString();
    }
}
