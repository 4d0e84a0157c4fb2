import java.util.NoSuchElementException;

/** Promises 11 to 18, 32 and 33: the runs and what they pay, keep and correct. */
public final class PaymentsTest {
    private static final int[] NO_HOUSEHOLDS = {-1, 1, 4, Integer.MIN_VALUE, Integer.MAX_VALUE};
    private static final int[] NO_MONTHS = {-1, 12, Integer.MIN_VALUE, Integer.MAX_VALUE};

    public static void main(String[] args) {
        firstRuns();
        twelveRuns();
        gapsArePaid();
        excessesUpToTheGaps();
        aFifthIsKept();
        fifthRoundedDown();
        earliestExcessFirst();
        gapsAndDebt();
        gapBeforeExcess();
        lateHousehold();
        severalHouseholds();
        withoutHouseholds();
        shareAndMean();
        refusals();
        Check.end();
    }

    /** An adult without rent: 10 a day, 300 a month. */
    private static void single(BenefitOffice office) {
        office.addPerson(0);
        office.addHousehold();
        office.move(0, 0, 0);
    }

    private static BenefitOffice afterRuns(int runs) {
        BenefitOffice office = new BenefitOffice();
        single(office);
        for (int i = 0; i < runs; i++) {
            office.pay();
        }
        return office;
    }

    private static void paidFor(BenefitOffice office, int household, int... due) {
        for (int month = 0; month < due.length; month++) {
            Check.same("paidFor " + month, office.paidFor(household, month), due[month]);
        }
    }

    private static void sums(BenefitOffice office, long paid, long kept, int balance, boolean settled) {
        Check.same("totalPaid", office.totalPaid(), paid);
        Check.same("keptBack", office.keptBack(), kept);
        Check.same("balance", office.balance(0), balance);
        Check.same("isSettled", office.isSettled(0), settled);
    }

    private static void firstRuns() {
        BenefitOffice office = afterRuns(0);
        sums(office, 0, 0, 0, true);
        Check.same("paidMonths before runs", office.paidMonths(), 0);
        paidFor(office, 0, 0, 0);
        Check.same("first pay", office.pay(), 300);
        Check.same("paidMonths after a run", office.paidMonths(), 1);
        Check.same("payment of the first run", office.payment(0, 0), 300);
        paidFor(office, 0, 300, 0);
        sums(office, 300, 0, 0, true);
        Check.same("second pay", office.pay(), 300);
        Check.same("paidMonths after two runs", office.paidMonths(), 2);
        sums(office, 600, 0, 0, true);
    }

    private static void twelveRuns() {
        BenefitOffice office = afterRuns(12);
        Check.same("paidMonths after all runs", office.paidMonths(), 12);
        Check.same("payment of the last run", office.payment(0, 11), 300);
        paidFor(office, 0, 300, 300, 300, 300, 300, 300, 300, 300, 300, 300, 300, 300);
        sums(office, 3600, 0, 0, true);
        office.setRule('a', 11, 359);
        Check.same("balance after all runs", office.balance(0), 1);
        Check.refused("thirteenth pay", IllegalStateException.class, x -> { single(x); payTwelve(x); }, x -> x.pay());
    }

    private static void payTwelve(BenefitOffice office) {
        for (int i = 0; i < 12; i++) {
            office.pay();
        }
    }

    private static void gapsArePaid() {
        BenefitOffice office = afterRuns(2);
        office.setRule('a', 12, 20);
        sums(office, 600, 0, 20 + 60, false);
        paidFor(office, 0, 300, 300, 0);
        Check.same("pay with gaps", office.pay(), 360 + 20 + 60);
        Check.same("payment with gaps", office.payment(0, 2), 440);
        Check.same("earlier payment", office.payment(0, 1), 300);
        paidFor(office, 0, 320, 360, 360, 0);
        sums(office, 1040, 0, 0, true);
    }

    private static void excessesUpToTheGaps() {
        BenefitOffice office = afterRuns(2);
        office.setRule('a', 9, 0);
        office.setRule('a', 11, 30);
        sums(office, 600, 0, 0, false);
        Check.same("pay with as many gaps as excesses", office.pay(), 330);
        paidFor(office, 0, 270, 330, 330);
        sums(office, 930, 0, 0, true);
        BenefitOffice other = afterRuns(2);
        other.setRule('a', 9, 29);
        other.setRule('a', 11, 30);
        Check.same("pay with more gaps than excesses", other.pay(), 330 + 30 - 1);
        paidFor(other, 0, 299, 330, 330);
        sums(other, 959, 0, 0, true);
    }

    private static void aFifthIsKept() {
        BenefitOffice office = afterRuns(2);
        office.setRule('a', 5, 0);
        sums(office, 600, 0, -300, false);
        Check.same("pay less a fifth", office.pay(), 120);
        Check.same("payment less a fifth", office.payment(0, 2), 120);
        paidFor(office, 0, 270, 300, 150);
        sums(office, 720, 30, -270, false);
        Check.same("pay less a fifth again", office.pay(), 120);
        paidFor(office, 0, 240, 300, 150, 150);
        sums(office, 840, 60, -240, false);
        office.setRule('a', 99, 120);
        office.setRule('m', 999, 120);
        Check.same("pay less the whole debt", office.pay(), 2970 - 240);
        paidFor(office, 0, 150, 150, 150, 150, 2970);
        sums(office, 840 + 2730, 300, 0, true);
    }

    private static void fifthRoundedDown() {
        BenefitOffice office = afterRuns(2);
        office.setRule('a', 0, 0);
        office.setRule('a', 1, 81);
        Check.same("pay of 9 less a fifth", office.pay(), 8);
        paidFor(office, 0, 299, 300, 9);
        sums(office, 608, 1, -599, false);
        BenefitOffice least = afterRuns(1);
        least.setRule('a', 0, 0);
        least.setRule('a', 1, 56);
        Check.same("pay of 4 less nothing", least.pay(), 4);
        paidFor(least, 0, 300, 4);
        sums(least, 304, 0, -300, false);
        BenefitOffice one = afterRuns(1);
        one.setRule('a', 9, 29);
        one.setRule('a', 1, 55);
        Check.same("pay less a debt of 1", one.pay(), 25 * 9 + 5 - 1);
        sums(one, 529, 1, 0, true);
    }

    private static void earliestExcessFirst() {
        BenefitOffice office = afterRuns(2);
        office.setRule('a', 0, 29);
        office.setRule('a', 10, 30);
        office.setRule('a', 0, 50);
        office.setRule('a', 10, 60);
        office.setRule('a', 0, 80);
        Check.same("pay less a fifth of 200", office.pay(), 160);
        paidFor(office, 0, 290, 270, 200);
        sums(office, 760, 40, -70, false);
    }

    private static void gapsAndDebt() {
        BenefitOffice office = afterRuns(2);
        office.setRule('a', 0, 0);
        office.setRule('a', 12, 30);
        sums(office, 600, 0, 60 - 300, false);
        Check.same("pay with a gap and a debt", office.pay(), 360 - 72);
        paidFor(office, 0, 300 - 60 - 72, 360, 360);
        sums(office, 888, 72, 60 + 72 - 300, false);
        office.setRule('a', 10, 0);
        Check.same("pay when the excess has become a gap", office.pay(), 360 + 132);
        paidFor(office, 0, 300, 360, 360, 360);
        sums(office, 1380, 72, 0, true);
    }

    private static void gapBeforeExcess() {
        BenefitOffice office = afterRuns(3);
        office.setRule('a', 11, 0);
        office.setRule('a', 8, 30);
        office.setRule('a', 2, 60);
        office.setRule('a', 10, 90);
        sums(office, 900, 0, 30 - 60 - 240, false);
        Check.same("pay with a gap before the excesses", office.pay(), 300 - 60);
        paidFor(office, 0, 330, 240, 300 - 30, 300);
        sums(office, 1140, 60, -210, false);
    }

    private static void lateHousehold() {
        BenefitOffice office = afterRuns(2);
        office.addHousehold();
        Check.same("payment before the household was added", office.payment(1, 1), 0);
        Check.same("paidFor before the household was added", office.paidFor(1, 1), 0);
        Check.same("isSettled without entitlements", office.isSettled(1), true);
        office.move(0, 1, 30);
        Check.same("balance of the late household", office.balance(1), 300);
        Check.same("isSettled of the late household", office.isSettled(1), false);
        Check.same("pay of both", office.pay(), 0 + 600);
        Check.same("payment without entitlement", office.payment(0, 2), 0);
        Check.same("payment with a gap", office.payment(1, 2), 600);
        paidFor(office, 0, 300, 300, 0);
        paidFor(office, 1, 0, 300, 300);
        sums(office, 1200, 0, -300, false);
    }

    private static void severalHouseholds() {
        BenefitOffice office = afterRuns(0);
        office.addHousehold();
        office.addHousehold();
        office.addPerson(0);
        office.move(1, 2, 15);
        Check.same("pay of three", office.pay(), 300 + 150);
        Check.same("payment of the second", office.payment(1, 0), 0);
        Check.same("payment of the third", office.payment(2, 0), 150);
        office.setRule('a', 5, 0);
        Check.same("pay of two debts", office.pay(), 150 - 30 + 150 - 30);
        Check.same("keptBack of two debts", office.keptBack(), 60L);
        Check.same("balance of the third", office.balance(2), -45);
        Check.same("isSettled of the second", office.isSettled(1), true);
    }

    private static void withoutHouseholds() {
        BenefitOffice office = new BenefitOffice();
        Check.same("pay without households", office.pay(), 0);
        Check.same("paidMonths without households", office.paidMonths(), 1);
        Check.same("totalPaid without households", office.totalPaid(), 0L);
        Check.refused("meanPayment without households", ArithmeticException.class, x -> x.pay(), x -> x.meanPayment());
        Check.refused("keptShare without households", ArithmeticException.class, x -> x.pay(), x -> x.keptShare());
        office.addHousehold();
        Check.same("pay without persons", office.pay(), 0);
        Check.same("meanPayment of nothing", office.meanPayment(), 0.0);
        Check.same("keptShare of nothing", Check.answer(office::keptShare), "ArithmeticException");
    }

    private static void shareAndMean() {
        BenefitOffice office = afterRuns(2);
        Check.same("keptShare of 0", office.keptShare(), 0.0f);
        Check.same("meanPayment of two", office.meanPayment(), 300.0);
        office.setRule('a', 5, 0);
        office.pay();
        Check.same("keptShare", office.keptShare(), 30.0f / 750.0f);
        Check.same("meanPayment of three", office.meanPayment(), 240.0);
        office.addHousehold();
        office.addHousehold();
        office.addHousehold();
        office.pay();
        Check.same("keptShare in float", office.keptShare(), 60.0f / 900.0f);
        Check.same("meanPayment of seven", office.meanPayment(), 120.0);
        office.setRule('a', 6, 119);
        office.pay();
        Check.same("meanPayment in double", office.meanPayment(), 984.0 / 11.0);
    }

    private static void refusals() {
        Check.refused("keptShare at first", ArithmeticException.class, PaymentsTest::single, x -> x.keptShare());
        Check.refused("meanPayment at first", ArithmeticException.class, PaymentsTest::single, x -> x.meanPayment());
        for (int household : NO_HOUSEHOLDS) {
            Check.refused("payment of none", IndexOutOfBoundsException.class, PaymentsTest::single,
                    x -> x.payment(household, 0));
            Check.refused("paidFor of none", IndexOutOfBoundsException.class, PaymentsTest::single,
                    x -> x.paidFor(household, 0));
            Check.refused("balance of none", IndexOutOfBoundsException.class, PaymentsTest::single,
                    x -> x.balance(household));
            Check.refused("isSettled of none", IndexOutOfBoundsException.class, PaymentsTest::single,
                    x -> x.isSettled(household));
        }
        for (int month : NO_MONTHS) {
            Check.refused("payment in no month", IndexOutOfBoundsException.class, PaymentsTest::single,
                    x -> x.payment(0, month));
            Check.refused("paidFor no month", IndexOutOfBoundsException.class, PaymentsTest::single,
                    x -> x.paidFor(0, month));
        }
        for (int month = 1; month < 12; month++) {
            int later = month;
            Check.refused("payment without run", NoSuchElementException.class, x -> { single(x); x.pay(); },
                    x -> x.payment(0, later));
        }
    }
}
