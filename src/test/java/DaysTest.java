import java.util.NoSuchElementException;
import java.util.function.Consumer;

/** Promises 21 to 30: what is asked of days and of entitlements. */
public final class DaysTest {
    private static final int[] NO_DAYS = {-1, 360, Integer.MIN_VALUE, Integer.MAX_VALUE};
    private static final int[] NO_HOUSEHOLDS = {-1, 1, 4, Integer.MIN_VALUE, Integer.MAX_VALUE};
    private static final int[] NO_MONTHS = {-1, 12, Integer.MIN_VALUE, Integer.MAX_VALUE};

    public static void main(String[] args) {
        residents();
        fullHousehold();
        incomes();
        noAdult();
        firstStep();
        eachAmountAlone();
        taper();
        taperOfAdultAmountAlone();
        taperTakesNothing();
        cap();
        capTies();
        bothSteps();
        nextChange();
        nextChangeOfOneAmount();
        entitlements();
        entitlementEdges();
        refusals();
        Check.end();
    }

    /** An adult and a child, who is an adult from the day 45 on, at a rent of 30: 10, 8 and 20 a day. */
    private static void family(BenefitOffice office) {
        office.addPerson(0);
        office.addPerson(45);
        office.addHousehold();
        office.move(0, 0, 0);
        office.move(1, 0, 0);
        office.setRent(0, 30, 0);
    }

    private static BenefitOffice withFamily() {
        BenefitOffice office = new BenefitOffice();
        family(office);
        return office;
    }

    private static String amounts(BenefitOffice office, int household, int day) {
        return office.adultAmount(household, day) + " " + office.childAmount(household, day) + " "
                + office.housingAmount(household, day) + " " + office.reason(household, day);
    }

    private static void residents() {
        BenefitOffice office = withFamily();
        Check.same("adults before the age", office.adults(0, 44), 1);
        Check.same("children before the age", office.children(0, 44), 1);
        Check.same("adults from the age on", office.adults(0, 45), 2);
        Check.same("children from the age on", office.children(0, 45), 0);
        office.addPerson(359);
        office.addPerson(360);
        office.addHousehold();
        office.move(2, 1, 0);
        office.move(3, 1, 0);
        Check.same("children up to the day 358", office.children(1, 358), 2);
        Check.same("adults on the day 359", office.adults(1, 359), 1);
        Check.same("children on the day 359", office.children(1, 359), 1);
        office.move(0, 1, 10);
        Check.same("adults before a move", office.adults(0, 9), 1);
        Check.same("adults who moved away", office.adults(0, 10), 0);
        Check.same("adults who moved in", office.adults(1, 10), 1);
        office.move(0, -1, 20);
        Check.same("adults who live nowhere", office.adults(1, 20), 0);
    }

    private static void fullHousehold() {
        BenefitOffice office = new BenefitOffice();
        office.addHousehold();
        for (int i = 0; i < 8; i++) {
            office.addPerson(i < 3 ? 0 : 999);
            office.move(i, 0, 0);
            office.setIncome(i, 999, 300);
        }
        office.setRule('m', 999, 0);
        Check.same("three adults", office.adults(0, 0), 3);
        Check.same("five children", office.children(0, 0), 5);
        Check.same("eight incomes", office.incomeOf(0, 300), 8 * 999);
        Check.same("amounts of eight", amounts(office, 0, 0), "30 28 0 f");
        office.setRule('t', 0, 0);
        office.setRule('p', 100, 0);
        Check.same("amounts of eight with incomes", amounts(office, 0, 300), "0 28 0 t");
    }

    private static void incomes() {
        BenefitOffice office = withFamily();
        office.setIncome(0, 100, 5);
        office.setIncome(1, 7, 6);
        Check.same("income of the first day", office.incomeOf(0, 0), 0);
        Check.same("income of an adult", office.incomeOf(0, 5), 100);
        Check.same("income with that of a child", office.incomeOf(0, 6), 107);
        office.move(0, -1, 50);
        Check.same("income of those who stay", office.incomeOf(0, 50), 7);
        office.move(1, -1, 60);
        Check.same("income of nobody", office.incomeOf(0, 60), 0);
    }

    private static void noAdult() {
        BenefitOffice office = withFamily();
        Check.same("with an adult", amounts(office, 0, 0), "10 8 20 f");
        office.setIncome(1, 900, 0);
        office.setRule('m', 1, 0);
        office.move(0, -1, 0);
        Check.same("with a child alone", amounts(office, 0, 44), "0 0 0 n");
        Check.same("when the child is an adult", amounts(office, 0, 45), "0 0 0 t");
        office.addHousehold();
        Check.same("without anybody", amounts(office, 1, 0), "0 0 0 n");
    }

    private static void firstStep() {
        BenefitOffice office = withFamily();
        office.setRule('m', 999, 0);
        office.setRent(0, 19, 10);
        office.setRule('r', 99, 20);
        office.setRent(0, 98, 30);
        office.addPerson(999);
        office.move(2, 0, 40);
        office.setRule('c', 99, 41);
        office.setRule('f', 99, 42);
        office.setRule('a', 99, 43);
        Check.same("rent over the limit", amounts(office, 0, 9), "10 8 20 f");
        Check.same("rent under the limit", amounts(office, 0, 10), "10 8 19 f");
        Check.same("greatest limit", amounts(office, 0, 30), "10 8 98 f");
        Check.same("two children, one extra", amounts(office, 0, 40), "10 13 98 f");
        Check.same("rate for a child", amounts(office, 0, 41), "10 201 98 f");
        Check.same("extra for children", amounts(office, 0, 42), "10 297 98 f");
        Check.same("rate for an adult", amounts(office, 0, 43), "99 297 98 f");
        Check.same("two adults, one child", amounts(office, 0, 45), "198 198 98 f");
        office.move(2, -1, 50);
        Check.same("no child, no extra", amounts(office, 0, 50), "198 0 98 f");
    }

    /** Each question is asked of a day after another day was looked at. */
    private static void eachAmountAlone() {
        BenefitOffice office = withFamily();
        office.move(0, -1, 100);
        office.move(1, -1, 100);
        office.adultAmount(0, 100);
        Check.same("childAmount alone", office.childAmount(0, 0), 8);
        office.adultAmount(0, 100);
        Check.same("housingAmount alone", office.housingAmount(0, 0), 20);
        office.adultAmount(0, 100);
        Check.same("reason alone", office.reason(0, 0), 'f');
        office.housingAmount(0, 100);
        Check.same("adultAmount alone", office.adultAmount(0, 0), 10);
        Check.same("nextChange alone", office.nextChange(0, 50), 100);
        Check.same("entitlement alone", office.entitlement(0, 0), 1140);
    }

    private static void taperedBy(int income, String due) {
        BenefitOffice office = withFamily();
        office.setIncome(0, income, 0);
        Check.same("taper of " + income, amounts(office, 0, 0), due);
    }

    private static void taper() {
        taperedBy(15, "10 8 20 f");
        taperedBy(16, "10 8 20 f");
        taperedBy(17, "10 8 19 t");
        taperedBy(18, "10 8 19 t");
        taperedBy(35, "10 8 10 t");
        taperedBy(55, "10 8 0 t");
        taperedBy(56, "10 8 0 t");
        taperedBy(57, "9 8 0 t");
        taperedBy(74, "1 8 0 t");
        taperedBy(75, "0 8 0 t");
        taperedBy(999, "0 8 0 t");
        BenefitOffice office = withFamily();
        office.setIncome(1, 35, 0);
        Check.same("taper of a child's income", amounts(office, 0, 0), "10 8 10 t");
        office.setRule('p', 33, 1);
        Check.same("taper rounded down", amounts(office, 0, 1), "10 8 14 t");
        office.setRule('p', 100, 2);
        Check.same("taper of the whole", amounts(office, 0, 2), "10 8 0 t");
        office.setRule('t', 34, 3);
        Check.same("taper over a threshold", amounts(office, 0, 3), "10 8 19 t");
        office.setRule('t', 35, 4);
        Check.same("taper at the threshold", amounts(office, 0, 4), "10 8 20 f");
    }

    private static void taperOfAdultAmountAlone() {
        BenefitOffice office = withFamily();
        office.setRent(0, 0, 0);
        office.setIncome(0, 25, 0);
        Check.same("taper without rent", amounts(office, 0, 0), "5 8 0 t");
        office.setRent(0, 5, 0);
        office.setIncome(0, 35, 0);
        Check.same("taper of as much rent as of the adult amount", amounts(office, 0, 0), "5 8 0 t");
    }

    private static void taperTakesNothing() {
        BenefitOffice office = withFamily();
        office.setIncome(0, 999, 0);
        office.setRent(0, 0, 1);
        office.setRule('a', 0, 1);
        Check.same("nothing to take", amounts(office, 0, 1), "0 8 0 f");
        office.setRule('m', 7, 2);
        Check.same("nothing to take, capped", amounts(office, 0, 2), "0 7 0 m");
        office.setRule('p', 0, 0);
        Check.same("a percentage of 0", amounts(office, 0, 0), "10 8 20 f");
    }

    private static void cappedAt(int cap, String due) {
        BenefitOffice office = withFamily();
        office.setRule('m', cap, 0);
        Check.same("cap of " + cap, amounts(office, 0, 0), due);
    }

    private static void cap() {
        cappedAt(999, "10 8 20 f");
        cappedAt(38, "10 8 20 f");
        cappedAt(37, "10 8 19 m");
        cappedAt(36, "9 8 19 m");
        cappedAt(25, "7 5 13 m");
        cappedAt(19, "5 4 10 m");
        cappedAt(2, "1 0 1 m");
        cappedAt(1, "0 0 1 m");
        cappedAt(0, "0 0 0 m");
    }

    /** Amounts of 10 and of the given ones, capped. */
    private static void tie(int rate, int rent, int cap, String due) {
        BenefitOffice office = withFamily();
        office.setRule('c', rate, 0);
        office.setRule('f', 0, 0);
        office.setRent(0, rent, 0);
        office.setRule('m', cap, 0);
        Check.same("tie of 10, " + rate + " and " + rent + " under " + cap, amounts(office, 0, 0), due);
    }

    private static void capTies() {
        tie(10, 10, 10, "4 3 3 m");
        tie(10, 10, 11, "4 4 3 m");
        tie(10, 10, 1, "1 0 0 m");
        tie(10, 10, 2, "1 1 0 m");
        tie(5, 5, 10, "5 3 2 m");
        tie(0, 10, 5, "3 0 2 m");
        tie(10, 0, 5, "3 2 0 m");
        tie(20, 10, 1, "0 1 0 m");
        tie(20, 20, 1, "0 1 0 m");
        tie(20, 20, 2, "0 1 1 m");
        tie(3, 7, 7, "4 1 2 m");
    }

    private static void bothSteps() {
        BenefitOffice office = withFamily();
        office.setIncome(0, 35, 0);
        office.setRule('m', 14, 0);
        office.setRule('m', 27, 1);
        office.setRule('m', 28, 2);
        Check.same("taper and cap", amounts(office, 0, 0), "5 4 5 b");
        Check.same("taper and a cap just below", amounts(office, 0, 1), "10 8 9 b");
        Check.same("taper to the cap", amounts(office, 0, 2), "10 8 10 t");
        office.setRule('t', 35, 0);
        Check.same("cap alone", amounts(office, 0, 1), "7 6 14 m");
    }

    private static void nextChange() {
        BenefitOffice office = withFamily();
        Check.same("change by age", office.nextChange(0, 0), 45);
        Check.same("change the day before", office.nextChange(0, 44), 45);
        Check.same("no more change", Check.answer(() -> office.nextChange(0, 45)), "NoSuchElementException");
        office.setRule('a', 11, 359);
        Check.same("change on the last day", office.nextChange(0, 45), 359);
        Check.same("change seen from the day before", office.nextChange(0, 358), 359);
        Check.same("none after the last day", Check.answer(() -> office.nextChange(0, 359)), "NoSuchElementException");
        office.setRent(0, 40, 5);
        office.setRule('a', 10, 6);
        office.setIncome(0, 15, 7);
        office.setRule('m', 38, 8);
        Check.same("facts that change no amount", office.nextChange(0, 0), 45);
        office.setRent(0, 10, 10);
        office.setRent(0, 30, 20);
        Check.same("change of the rent", office.nextChange(0, 0), 10);
        Check.same("change back", office.nextChange(0, 10), 20);
        Check.same("change after that", office.nextChange(0, 20), 45);
        office.takeBackRule('a', 359);
        office.move(0, -1, 300);
        office.move(1, -1, 300);
        Check.same("change to no adult", office.nextChange(0, 299), 300);
    }

    private static void nextChangeOfOneAmount() {
        BenefitOffice office = withFamily();
        office.setRule('a', 9, 12);
        office.setRule('f', 4, 12);
        Check.same("change of two amounts with the same sum", office.nextChange(0, 0), 12);
        office.setRule('f', 5, 13);
        office.setRule('r', 19, 13);
        Check.same("change of the child and the housing amount", office.nextChange(0, 12), 13);
        office.setRule('r', 20, 14);
        office.setRule('a', 8, 14);
        Check.same("change of the adult and the housing amount", office.nextChange(0, 13), 14);
        office.addHousehold();
        Check.refused("nextChange of nobody", NoSuchElementException.class,
                x -> { family(x); x.addHousehold(); }, x -> x.nextChange(1, 0));
    }

    private static void entitled(BenefitOffice office, int month, int due) {
        Check.same("entitlement for " + month, office.entitlement(0, month), due);
        Check.same("entitlementByDays for " + month, office.entitlementByDays(0, month), due);
    }

    private static void entitlements() {
        BenefitOffice office = withFamily();
        entitled(office, 0, 1140);
        entitled(office, 1, 15 * 38 + 15 * 40);
        entitled(office, 2, 1200);
        entitled(office, 11, 1200);
        office.setRule('m', 25, 5);
        entitled(office, 0, 5 * 38 + 25 * 25);
        office.setIncome(0, 25, 20);
        entitled(office, 0, 5 * 38 + 25 * 25);
        office.setIncome(0, 61, 20);
        entitled(office, 0, 5 * 38 + 15 * 25 + 10 * 15);
        office.pay();
        entitled(office, 0, 5 * 38 + 15 * 25 + 10 * 15);
        office.takeBackRule('m', 5);
        entitled(office, 0, 20 * 38 + 10 * 15);
        office.addHousehold();
        Check.same("entitlement of nobody", office.entitlement(1, 0), 0);
        Check.same("entitlementByDays of nobody", office.entitlementByDays(1, 0), 0);
    }

    private static void entitlementEdges() {
        BenefitOffice office = new BenefitOffice();
        office.addPerson(30);
        office.addPerson(59);
        office.addHousehold();
        office.move(0, 0, 29);
        office.move(1, 0, 29);
        entitled(office, 0, 0);
        entitled(office, 1, 29 * 18 + 20);
        office.setRule('a', 11, 59);
        office.setRule('a', 12, 60);
        office.setRule('a', 13, 359);
        entitled(office, 1, 29 * 18 + 22);
        entitled(office, 2, 30 * 24);
        entitled(office, 11, 29 * 24 + 26);
        office.setRule('a', 1, 30);
        entitled(office, 1, 29 * 9 + 22);
    }

    private static void refusesHousehold(String name, Consumer<BenefitOffice> call) {
        Check.refused(name + " of no household", IndexOutOfBoundsException.class, DaysTest::family, call);
    }

    private static void refusesDay(String name, Consumer<BenefitOffice> call) {
        Check.refused(name + " on no day", IllegalArgumentException.class, DaysTest::family, call);
    }

    private static void refusals() {
        for (int household : NO_HOUSEHOLDS) {
            for (int day : new int[] {0, -1}) {
                refusesHousehold("adults", x -> x.adults(household, day));
                refusesHousehold("children", x -> x.children(household, day));
                refusesHousehold("incomeOf", x -> x.incomeOf(household, day));
                refusesHousehold("adultAmount", x -> x.adultAmount(household, day));
                refusesHousehold("childAmount", x -> x.childAmount(household, day));
                refusesHousehold("housingAmount", x -> x.housingAmount(household, day));
                refusesHousehold("reason", x -> x.reason(household, day));
                refusesHousehold("nextChange", x -> x.nextChange(household, day));
                refusesHousehold("entitlement", x -> x.entitlement(household, day));
                refusesHousehold("entitlementByDays", x -> x.entitlementByDays(household, day));
            }
        }
        for (int day : NO_DAYS) {
            refusesDay("adults", x -> x.adults(0, day));
            refusesDay("children", x -> x.children(0, day));
            refusesDay("incomeOf", x -> x.incomeOf(0, day));
            refusesDay("adultAmount", x -> x.adultAmount(0, day));
            refusesDay("childAmount", x -> x.childAmount(0, day));
            refusesDay("housingAmount", x -> x.housingAmount(0, day));
            refusesDay("reason", x -> x.reason(0, day));
            refusesDay("nextChange", x -> x.nextChange(0, day));
        }
        for (int month : NO_MONTHS) {
            refusesHousehold("entitlement", x -> x.entitlement(0, month));
            refusesHousehold("entitlementByDays", x -> x.entitlementByDays(0, month));
        }
    }
}
