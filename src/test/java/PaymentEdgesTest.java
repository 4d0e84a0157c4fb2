import java.util.Arrays;
import java.util.List;

/**
 * The boundary cases of runs and payments (Terms, promises 11 to 18, 32, 33): above each test stands the sentence of
 * the document that it holds to. What is refused stands in RefusalsTest.
 */
public final class PaymentEdgesTest {
    private static final int MONTHS = 12;

    public static void main(String[] args) {
        nothingPaidAtFirst();
        monthsInAscendingOrder();
        lastRun();
        gapsAndExcessesOfOne();
        excessesNotGreaterThanGaps();
        aFifthRoundedDown();
        debtAroundTheFifth();
        earliestExcessFirst();
        monthsWithoutExcess();
        gapsTakenFromExcesses();
        paymentOfNothing();
        elevenEarlierMonths();
        debtThroughAllRuns();
        excessThatBecomesAGap();
        laterMonthsDoNotCount();
        toldAfterAllRuns();
        withoutHouseholds();
        householdAddedBetween();
        householdAddedAfterAllRuns();
        householdsApart();
        fullOffice();
        settledOrBalanced();
        keptBackOfSettledRuns();
        shareOfNothing();
        shareInFloat();
        meanOfNoPayment();
        meanInDouble();
        questionsChangeNothing();
        Check.end();
    }

    // ---- offices, and the entitlements of household 0

    /** Household 0 with one adult. */
    private static BenefitOffice office() {
        BenefitOffice office = new BenefitOffice();
        office.addPerson(0);
        office.addHousehold();
        office.move(0, 0, 0);
        office.setRule('m', 999, 0);
        return office;
    }

    /** Makes the entitlement of one adult without a rent this amount, 0 to 2129; two facts a month, always for the same days. */
    private static void entitle(BenefitOffice office, int month, int amount) {
        office.setRule('a', amount / 30, 30 * month);
        office.setRule('a', amount / 30 + amount % 30, 30 * month + 29);
        if (month < MONTHS - 1 && office.paidMonths() == 0) {
            office.setRule('a', 10, 30 * month + 30);
        }
        Check.same("the entitlement that the test wants", office.entitlement(0, month), amount);
    }

    /** An office that has paid a month for each of these entitlements. */
    private static BenefitOffice paid(int... entitlements) {
        BenefitOffice office = office();
        for (int month = 0; month < entitlements.length; month++) {
            entitle(office, month, entitlements[month]);
        }
        for (int month = 0; month < entitlements.length; month++) {
            Check.same("a run without corrections", office.pay(), entitlements[month]);
        }
        return office;
    }

    /** Months are paid with the entitlements before; then those after are told, one more, and the next run is done. */
    private static void corrected(int[] before, int[] after, int duePayment, int dueKept, int... duePaid) {
        String what = Arrays.toString(before) + " corrected to " + Arrays.toString(after);
        BenefitOffice office = paid(before);
        for (int month = 0; month < after.length; month++) {
            entitle(office, month, after[month]);
        }
        Check.same(what + ": pay", office.pay(), duePayment);
        Check.same(what + ": payment", office.payment(0, before.length), duePayment);
        Check.same(what + ": keptBack", office.keptBack(), (long) dueKept);
        Check.same(what + ": totalPaid", office.totalPaid(), (long) duePayment + Arrays.stream(before).sum());
        Check.same(what + ": balance", office.balance(0), Arrays.stream(after).sum() - Arrays.stream(duePaid).sum());
        Check.same(what + ": isSettled", office.isSettled(0), Arrays.equals(after, duePaid));
        paidFor(what, office, 0, duePaid);
        for (int month = 0; month < before.length; month++) {
            Check.same(what + ": earlier payment", office.payment(0, month), before[month]);
        }
    }

    /** What was paid for the first months; 0 for the others. */
    private static void paidFor(String what, BenefitOffice office, int household, int... due) {
        for (int month = 0; month < MONTHS; month++) {
            Check.same(what + ": paidFor " + month, office.paidFor(household, month), month < due.length ? due[month] : 0);
        }
    }

    private static int[] amounts(int... amounts) {
        return amounts;
    }

    // ---- the first and the last run

    /** "what was paid for each month to each household is 0 at first", "0 if there was no run for it yet". */
    private static void nothingPaidAtFirst() {
        BenefitOffice office = office();
        paidFor("before all runs", office, 0);
        Check.same("paidMonths at first", office.paidMonths(), 0);
        Check.same("totalPaid at first", office.totalPaid(), 0L);
        Check.same("keptBack at first", office.keptBack(), 0L);
        Check.same("balance at first", office.balance(0), 0);
        Check.same("isSettled at first", office.isSettled(0), true);
        Check.same("payment at first", Check.answer(() -> office.payment(0, 0)), "NoSuchElementException");
    }

    /** "There is a run for each month, in ascending order": the number of months "is also the next month". */
    private static void monthsInAscendingOrder() {
        BenefitOffice office = office();
        int[] due = new int[MONTHS];
        for (int month = 0; month < MONTHS; month++) {
            entitle(office, month, 301 + month);
        }
        long total = 0;
        for (int i = 0; i < MONTHS; i++) {
            int month = i;
            Check.same("paidMonths before the run for " + month, office.paidMonths(), month);
            Check.same("payment before the run for " + month, Check.answer(() -> office.payment(0, month)),
                    "NoSuchElementException");
            Check.same("the run for " + month, office.pay(), 301 + month);
            Check.same("payment of the run for " + month, office.payment(0, month), 301 + month);
            due[month] = 301 + month;
            total += due[month];
            paidFor("after the run for " + month, office, 0, Arrays.copyOf(due, month + 1));
            Check.same("totalPaid after the run for " + month, office.totalPaid(), total);
        }
    }

    /** "Throws IllegalStateException if there was a run for each month". */
    private static void lastRun() {
        BenefitOffice office = office();
        for (int month = 0; month < MONTHS; month++) {
            Check.same("run " + month, office.pay(), 300);
        }
        for (int i = 0; i < 3; i++) {
            Check.same("one run more", Check.answer(office::pay), "IllegalStateException");
        }
        Check.same("paidMonths after all runs", office.paidMonths(), 12);
        Check.same("totalPaid after all runs", office.totalPaid(), 3600L);
        Check.same("payment of the last run", office.payment(0, 11), 300);
        Check.same("no month 12", Check.answer(() -> office.payment(0, 12)), "IndexOutOfBoundsException");
    }

    // ---- gaps, excesses and debts

    /** "a gap is its entitlement minus what was paid for it, if that is positive, and an excess is ...". */
    private static void gapsAndExcessesOfOne() {
        corrected(amounts(), amounts(300), 300, 0, 300);
        corrected(amounts(300), amounts(300, 300), 300, 0, 300, 300);
        corrected(amounts(300), amounts(301, 300), 301, 0, 301, 300);
        corrected(amounts(300), amounts(299, 300), 299, 1, 299, 300);
        corrected(amounts(0), amounts(1, 0), 1, 0, 1, 0);
        corrected(amounts(1), amounts(0, 0), 0, 0, 1, 0);
        corrected(amounts(0), amounts(0, 0), 0, 0, 0, 0);
        corrected(amounts(0, 0), amounts(2129, 2129, 2129), 6387, 0, 2129, 2129, 2129);
    }

    /** "If the sum of all excesses is not greater than the sum of all gaps". */
    private static void excessesNotGreaterThanGaps() {
        corrected(amounts(300, 300), amounts(302, 299, 300), 301, 0, 302, 299, 300);
        corrected(amounts(300, 300), amounts(301, 299, 300), 300, 0, 301, 299, 300);
        corrected(amounts(300, 300), amounts(299, 301, 300), 300, 0, 299, 301, 300);
        corrected(amounts(300, 300), amounts(301, 298, 300), 299, 1, 301, 298, 300);
        corrected(amounts(300, 300), amounts(298, 301, 300), 299, 1, 298, 301, 300);
        corrected(amounts(300, 300, 300), amounts(290, 315, 295, 7), 7, 0, 290, 315, 295, 7);
        corrected(amounts(300, 300, 300), amounts(290, 314, 295, 7), 6, 1, 290, 314, 295, 7);
        corrected(amounts(300, 300), amounts(0, 600, 0), 0, 0, 0, 600, 0);
        corrected(amounts(300, 300), amounts(0, 599, 0), 0, 0, 1, 599, 0);
    }

    /** "at most a fifth of the entitlement of the month of the run, rounded down". */
    private static void aFifthRoundedDown() {
        corrected(amounts(300), amounts(0, 0), 0, 0, 300, 0);
        corrected(amounts(300), amounts(0, 1), 1, 0, 300, 1);
        corrected(amounts(300), amounts(0, 4), 4, 0, 300, 4);
        corrected(amounts(300), amounts(0, 5), 4, 1, 299, 5);
        corrected(amounts(300), amounts(0, 6), 5, 1, 299, 6);
        corrected(amounts(300), amounts(0, 9), 8, 1, 299, 9);
        corrected(amounts(300), amounts(0, 10), 8, 2, 298, 10);
        corrected(amounts(2129), amounts(0, 2129), 1704, 425, 1704, 2129);
    }

    /** "the debt, but at most a fifth": a debt less than a fifth, a fifth and greater than it. */
    private static void debtAroundTheFifth() {
        corrected(amounts(300), amounts(241, 300), 241, 59, 241, 300);
        corrected(amounts(300), amounts(240, 300), 240, 60, 240, 300);
        corrected(amounts(300), amounts(239, 300), 240, 60, 240, 300);
        corrected(amounts(300), amounts(0, 1499), 1200, 299, 1, 1499);
        corrected(amounts(300), amounts(0, 1500), 1200, 300, 0, 1500);
        corrected(amounts(300), amounts(0, 1505), 1205, 300, 0, 1505);
    }

    /** "is taken from what was paid for the months with an excess, from the earliest one on, from each at most its excess." */
    private static void earliestExcessFirst() {
        int[] before = {300, 300, 300};
        corrected(before, amounts(290, 290, 290, 45), 36, 9, 291, 300, 300, 45);
        corrected(before, amounts(290, 290, 290, 50), 40, 10, 290, 300, 300, 50);
        corrected(before, amounts(290, 290, 290, 55), 44, 11, 290, 299, 300, 55);
        corrected(before, amounts(290, 290, 290, 100), 80, 20, 290, 290, 300, 100);
        corrected(before, amounts(290, 290, 290, 145), 116, 29, 290, 290, 291, 145);
        corrected(before, amounts(290, 290, 290, 150), 120, 30, 290, 290, 290, 150);
        corrected(before, amounts(290, 290, 290, 155), 125, 30, 290, 290, 290, 155);
        corrected(before, amounts(0, 0, 0, 1500), 1200, 300, 0, 300, 300, 1500);
    }

    /** Months without an excess stay as they are. */
    private static void monthsWithoutExcess() {
        int[] before = {300, 300, 300, 300};
        corrected(before, amounts(300, 290, 300, 280, 75), 60, 15, 300, 290, 300, 295, 75);
        corrected(before, amounts(300, 300, 300, 280, 75), 60, 15, 300, 300, 300, 285, 75);
        corrected(before, amounts(280, 300, 300, 300, 75), 60, 15, 285, 300, 300, 300, 75);
        corrected(amounts(0, 300, 0), amounts(0, 290, 0, 25), 20, 5, 0, 295, 0, 25);
    }

    /** "what was paid for ... each earlier month with a gap, becomes its entitlement; and the sum of all gaps plus what is kept back is taken ...". */
    private static void gapsTakenFromExcesses() {
        int[] before = {300, 300, 300};
        corrected(before, amounts(250, 310, 320, 100), 80, 20, 250, 310, 320, 100);
        corrected(before, amounts(250, 310, 320, 99), 80, 19, 251, 310, 320, 99);
        corrected(before, amounts(250, 310, 320, 0), 0, 0, 270, 310, 320, 0);
        corrected(before, amounts(310, 200, 300, 0), 0, 0, 310, 290, 300, 0);
        corrected(before, amounts(310, 320, 200, 50), 40, 10, 310, 320, 260, 50);
        corrected(before, amounts(0, 800, 0, 500), 400, 100, 0, 800, 0, 500);
        corrected(before, amounts(0, 800, 0, 495), 396, 99, 0, 800, 1, 495);
        corrected(before, amounts(299, 400, 0, 0), 0, 0, 299, 400, 201, 0);
        corrected(before, amounts(200, 400, 0, 0), 0, 0, 200, 400, 300, 0);
    }

    /** "A payment can only be 0 or more." */
    private static void paymentOfNothing() {
        corrected(amounts(2129), amounts(0, 0), 0, 0, 2129, 0);
        corrected(amounts(300, 300), amounts(0, 0, 0), 0, 0, 300, 300, 0);
        corrected(amounts(300, 300), amounts(0, 600, 0), 0, 0, 0, 600, 0);
        corrected(amounts(300, 300), amounts(0, 300, 1), 1, 0, 300, 300, 1);
        BenefitOffice office = paid(300, 300);
        entitle(office, 0, 0);
        for (int month = 2; month < MONTHS; month++) {
            entitle(office, month, 0);
            Check.same("a run without an entitlement", office.pay(), 0);
        }
        paidFor("no entitlement left", office, 0, 300, 300);
        Check.same("nothing could be kept back", office.keptBack(), 0L);
        Check.same("the debt stands", office.balance(0), -300);
    }

    /** The run for the last month has 11 earlier ones. */
    private static void elevenEarlierMonths() {
        int[] before = new int[11];
        int[] after = new int[12];
        Arrays.fill(before, 300);
        for (int i = 0; i < 11; i++) {
            after[i] = i % 2 == 0 ? 299 : 301;
        }
        after[11] = 300;
        corrected(before, after, 299, 1, after);
        after[11] = 4;
        int[] due = after.clone();
        due[10] = 300;
        corrected(before, after, 4, 0, due);
        Arrays.fill(after, 310);
        corrected(before, after, 420, 0, after);
        Arrays.fill(after, 290);
        corrected(before, after, 232, 58, 290, 290, 290, 290, 290, 292, 300, 300, 300, 300, 300, 290);
    }

    /** A debt that no run can keep back as a whole. */
    private static void debtThroughAllRuns() {
        BenefitOffice office = paid(300);
        entitle(office, 0, 0);
        int[] due = new int[MONTHS];
        due[0] = 300;
        for (int month = 1; month < MONTHS; month++) {
            entitle(office, month, 34);
            Check.same("a run that keeps 6 back", office.pay(), 28);
            due[0] -= 6;
            due[month] = 34;
            paidFor("after the run for " + month, office, 0, Arrays.copyOf(due, month + 1));
            Check.same("kept back after the run for " + month, office.keptBack(), 6L * month);
            Check.same("balance after the run for " + month, office.balance(0), 6 * month - 300);
            Check.same("settled after the run for " + month, office.isSettled(0), false);
        }
    }

    /** What was kept back is paid again when the fact that made the excess is taken back. */
    private static void excessThatBecomesAGap() {
        BenefitOffice office = paid(300);
        office.setIncome(0, 999, 0);
        office.setIncome(0, 0, 30);
        Check.same("pay with an excess", office.pay(), 240);
        paidFor("with an excess", office, 0, 240, 300);
        Check.same("the income is taken back", office.takeBackIncome(0, 0), 999);
        Check.same("balance with a gap", office.balance(0), 60);
        Check.same("pay with the gap", office.pay(), 360);
        paidFor("with the gap", office, 0, 300, 300, 300);
        Check.same("what was kept back stays counted", office.keptBack(), 60L);
        Check.same("all that was paid", office.totalPaid(), 900L);
        Check.same("settled again", office.isSettled(0), true);
    }

    /** "For each earlier month": what is told for the month of the run and later ones makes no gap and no excess. */
    private static void laterMonthsDoNotCount() {
        BenefitOffice office = paid(300);
        entitle(office, 1, 330);
        for (int month = 2; month < MONTHS; month++) {
            entitle(office, month, month % 2 * 1000);
        }
        Check.same("balance without later months", office.balance(0), 0);
        Check.same("isSettled without later months", office.isSettled(0), true);
        Check.same("pay without later months", office.pay(), 330);
        paidFor("without later months", office, 0, 300, 330);
        Check.same("balance after the run", office.balance(0), 0);
        Check.same("the next run", office.pay(), 0);
        Check.same("the run after that", office.pay(), 1000);
    }

    /** After the last run nothing is corrected any more. */
    private static void toldAfterAllRuns() {
        int[] all = new int[MONTHS];
        Arrays.fill(all, 300);
        BenefitOffice office = paid(all);
        entitle(office, 11, 301);
        Check.same("balance with a gap of the last month", office.balance(0), 1);
        entitle(office, 0, 298);
        Check.same("balance with an excess of the first month", office.balance(0), -1);
        Check.same("isSettled with both", office.isSettled(0), false);
        Check.same("no run for them", Check.answer(office::pay), "IllegalStateException");
        paidFor("told after all runs", office, 0, all);
        Check.same("totalPaid after all runs", office.totalPaid(), 3600L);
        entitle(office, 11, 300);
        entitle(office, 0, 300);
        Check.same("settled again", office.isSettled(0), true);
    }

    // ---- households

    /** Runs of an office with nothing in it. */
    private static void withoutHouseholds() {
        BenefitOffice office = new BenefitOffice();
        for (int month = 0; month < MONTHS; month++) {
            Check.same("a run without households", office.pay(), 0);
            Check.same("paidMonths without households", office.paidMonths(), month + 1);
        }
        Check.same("one run more without households", Check.answer(office::pay), "IllegalStateException");
        Check.same("totalPaid without households", office.totalPaid(), 0L);
        Check.same("no payment of no household", Check.answer(() -> office.payment(0, 0)), "IndexOutOfBoundsException");
    }

    /** payment: "0 if the household was added after the run"; all earlier months are gaps for it. */
    private static void householdAddedBetween() {
        BenefitOffice office = paid(300, 300, 300);
        office.addPerson(0);
        Check.same("the second household", office.addHousehold(), 1);
        for (int month = 0; month < 3; month++) {
            Check.same("payment before it was added", office.payment(1, month), 0);
        }
        Check.same("no payment of the next run yet", Check.answer(() -> office.payment(1, 3)), "NoSuchElementException");
        Check.same("settled, as it has no entitlement", office.isSettled(1), true);
        office.move(1, 1, 59);
        Check.same("balance of earlier months", office.balance(1), 10 + 300);
        Check.same("pay with earlier months", office.pay(), 300 + 610);
        Check.same("payment with earlier months", office.payment(1, 3), 610);
        Check.same("payment of the run before stays", office.payment(1, 2), 0);
        paidFor("added between", office, 1, 0, 10, 300, 300);
        Check.same("settled after the run", office.isSettled(1), true);
    }

    private static void householdAddedAfterAllRuns() {
        BenefitOffice office = new BenefitOffice();
        office.addPerson(0);
        for (int month = 0; month < MONTHS; month++) {
            office.pay();
        }
        office.addHousehold();
        for (int month = 0; month < MONTHS; month++) {
            Check.same("payment of a household added after all runs", office.payment(0, month), 0);
        }
        Check.same("settled at first", office.isSettled(0), true);
        office.move(0, 0, 0);
        Check.same("balance of all months", office.balance(0), 3600);
        Check.same("not settled", office.isSettled(0), false);
        paidFor("added after all runs", office, 0);
        Check.same("no run for it", Check.answer(office::pay), "IllegalStateException");
    }

    /** "The run for a month pays to each household": gaps of one are not set against excesses of another. */
    private static void householdsApart() {
        BenefitOffice office = office();
        for (int i = 1; i < 4; i++) {
            office.addHousehold();
        }
        office.addPerson(0);
        office.move(1, 3, 0);
        Check.same("pay of four", office.pay(), 600);
        office.move(0, 3, 0);
        Check.same("balance of the one with an excess", office.balance(0), -300);
        Check.same("balance of the one with a gap", office.balance(3), 300);
        Check.same("pay of the gap alone", office.pay(), 600 + 300);
        Check.same("payment of the first", office.payment(0, 1), 0);
        Check.same("payment of the last", office.payment(3, 1), 900);
        paidFor("the first", office, 0, 300, 0);
        paidFor("the second", office, 1, 0, 0);
        paidFor("the last", office, 3, 600, 600);
        office.move(0, 0, 60);
        Check.same("pay less a fifth of the first alone", office.pay(), 240 + 300);
        Check.same("keptBack of the first alone", office.keptBack(), 60L);
        paidFor("the first after that", office, 0, 240, 0, 300);
        paidFor("the last after that", office, 3, 600, 600, 300);
    }

    /** Eight persons, four households, the greatest amounts, all months. */
    private static void fullOffice() {
        BenefitOffice office = new BenefitOffice();
        for (int i = 0; i < 4; i++) {
            office.addHousehold();
            office.setRent(i, 999, 0);
        }
        for (int i = 0; i < 8; i++) {
            office.addPerson(i < 4 ? 0 : 999);
            office.move(i, i % 4, 0);
        }
        for (char rule : new char[] {'a', 'c', 'f', 'r'}) {
            office.setRule(rule, 99, 0);
        }
        office.setRule('m', 999, 0);
        for (int month = 0; month < MONTHS; month++) {
            Check.same("greatest run", office.pay(), 47520);
            Check.same("greatest payment of the last household", office.payment(3, month), 11880);
        }
        Check.same("greatest totalPaid", office.totalPaid(), 570240L);
        Check.same("mean of 48 payments", office.meanPayment(), 11880.0);
        office.setRule('m', 0, 0);
        for (int i = 0; i < 4; i++) {
            Check.same("balance when all was too much", office.balance(i), -142560);
        }
    }

    // ---- sums

    /** isSettled: "whether what was paid to a household for each month ... is its entitlement"; balance: "negative if that is more". */
    private static void settledOrBalanced() {
        BenefitOffice office = paid(300, 300);
        Check.same("balance of nothing to correct", office.balance(0), 0);
        entitle(office, 0, 299);
        Check.same("balance of an excess of 1", office.balance(0), -1);
        Check.same("isSettled with an excess of 1", office.isSettled(0), false);
        entitle(office, 1, 301);
        Check.same("balance of an excess and a gap", office.balance(0), 0);
        Check.same("isSettled with an excess and a gap", office.isSettled(0), false);
        entitle(office, 0, 300);
        Check.same("balance of a gap of 1", office.balance(0), 1);
        Check.same("isSettled with a gap of 1 in the last month", office.isSettled(0), false);
        entitle(office, 1, 300);
        Check.same("isSettled with nothing to correct", office.isSettled(0), true);
        entitle(office, 2, 0);
        Check.same("isSettled whatever the next month is", office.isSettled(0), true);
        BenefitOffice before = office();
        Check.same("isSettled without a run", before.isSettled(0), true);
        Check.same("balance without a run", before.balance(0), 0);
    }

    /** keptBack: what is set against gaps is not kept back. */
    private static void keptBackOfSettledRuns() {
        corrected(amounts(300, 300), amounts(200, 400, 300), 300, 0, 200, 400, 300);
        corrected(amounts(300, 300), amounts(199, 400, 300), 299, 1, 199, 400, 300);
        BenefitOffice office = paid(300);
        entitle(office, 0, 299);
        Check.same("1 is kept back", office.pay(), 299);
        Check.same("keptBack of 1", office.keptBack(), 1L);
        Check.same("nothing more is kept back", office.pay(), office.entitlement(0, 2));
        Check.same("keptBack stays", office.keptBack(), 1L);
    }

    /** "Throws ArithmeticException if both sums are 0". */
    private static void shareOfNothing() {
        BenefitOffice office = office();
        Check.same("keptShare without a run", Check.answer(office::keptShare), "ArithmeticException");
        entitle(office, 0, 0);
        office.pay();
        Check.same("keptShare of a payment of 0", Check.answer(office::keptShare), "ArithmeticException");
        entitle(office, 0, 1);
        entitle(office, 1, 0);
        office.pay();
        Check.same("keptShare of a payment of 1", office.keptShare(), 0.0f);
    }

    /** "the sum of all that was kept back divided by that sum plus the sum of all payments, both converted to float." */
    private static void shareInFloat() {
        BenefitOffice tenth = paid(300);
        entitle(tenth, 0, 0);
        entitle(tenth, 1, 300);
        Check.same("keptShare before anything is kept back", tenth.keptShare(), 0.0f);
        tenth.pay();
        Check.same("keptShare of 60 of 600", tenth.keptShare(), 0.1f);
        BenefitOffice least = paid(300);
        entitle(least, 0, 299);
        entitle(least, 1, 300);
        least.pay();
        Check.same("keptShare of 1 of 600", least.keptShare(), 0.0016666667f);
        BenefitOffice most = paid(5);
        entitle(most, 0, 0);
        entitle(most, 1, 25);
        most.pay();
        Check.same("keptShare of 5 of 30", most.keptShare(), 0.16666667f);
    }

    /** "Throws ArithmeticException if there was no payment": a payment of 0 is one, a run without households makes none. */
    private static void meanOfNoPayment() {
        BenefitOffice office = new BenefitOffice();
        Check.same("meanPayment without a run", Check.answer(office::meanPayment), "ArithmeticException");
        office.pay();
        office.addHousehold();
        Check.same("meanPayment without a payment", Check.answer(office::meanPayment), "ArithmeticException");
        office.pay();
        Check.same("meanPayment of a payment of 0", office.meanPayment(), 0.0);
        office.addPerson(0);
        office.move(0, 0, 0);
        office.pay();
        Check.same("meanPayment of 0 and 900", office.meanPayment(), 450.0);
    }

    /** "a run makes one payment to each household that there is", "both converted to double". */
    private static void meanInDouble() {
        BenefitOffice office = paid(300, 300, 400);
        Check.same("meanPayment of three", office.meanPayment(), 333.3333333333333);
        office.addHousehold();
        office.addHousehold();
        office.addHousehold();
        Check.same("added households make no payments", office.meanPayment(), 333.3333333333333);
        entitle(office, 3, 1);
        office.pay();
        Check.same("meanPayment of seven", office.meanPayment(), 143.0);
        entitle(office, 4, 1);
        office.pay();
        Check.same("meanPayment of eleven", office.meanPayment(), 91.0909090909091);
    }

    /** "facts are told and taken back, months are paid, and all other calls are questions": they change nothing. */
    private static void questionsChangeNothing() {
        List<String> due = Check.states(PaymentEdgesTest::withDebt);
        List<String> asked = Check.states(x -> {
            withDebt(x);
            ask(x);
        });
        for (int i = 0; i < due.size(); i++) {
            Check.same("state after questions, probe " + i, asked.get(i), due.get(i));
        }
    }

    private static void withDebt(BenefitOffice office) {
        office.addPerson(0);
        office.addPerson(70);
        office.addHousehold();
        office.addHousehold();
        office.move(0, 0, 0);
        office.move(1, 1, 0);
        office.pay();
        office.pay();
        office.setRule('a', 7, 20);
        office.pay();
    }

    private static void ask(BenefitOffice office) {
        for (int i = 0; i < 2; i++) {
            int household = i;
            for (int k = 0; k < 4; k++) {
                int month = k;
                Check.answer(() -> office.payment(household, month));
                office.paidFor(household, month);
                office.entitlement(household, month);
                office.entitlementByDays(household, month);
                office.adults(household, 30 * month);
                office.children(household, 30 * month);
                office.incomeOf(household, 30 * month);
                office.adultAmount(household, 30 * month);
                office.childAmount(household, 30 * month);
                office.housingAmount(household, 30 * month);
                office.reason(household, 30 * month);
                Check.answer(() -> office.nextChange(household, 30 * month));
            }
            office.balance(household);
            office.isSettled(household);
            office.homeOf(household, 0);
        }
        office.ruleAt('a', 0);
        office.paidMonths();
        office.totalPaid();
        office.keptBack();
        office.facts();
        office.keptShare();
        office.meanPayment();
    }
}
