/** The example of README.md: what its comments say is what the calls answer. */
public final class ReadmeTest {
    public static void main(String[] args) {
        BenefitOffice office = new BenefitOffice();
        int person = office.addPerson(0);
        int household = office.addHousehold();
        Check.same("move", office.move(person, household, 0), -1);
        Check.same("setRent", office.setRent(household, 30, 0), 0);
        Check.same("setIncome", office.setIncome(person, 35, 10), 0);
        Check.same("housingAmount on 9", office.housingAmount(household, 9), 20);
        Check.same("housingAmount on 10", office.housingAmount(household, 10), 10);
        Check.same("reason", office.reason(household, 10), 't');
        Check.same("nextChange", office.nextChange(household, 0), 10);
        Check.same("pay", office.pay(), 700);
        Check.same("takeBackIncome", office.takeBackIncome(person, 10), 35);
        Check.same("balance", office.balance(household), 200);
        Check.same("pay with the correction", office.pay(), 1100);
        Check.same("isSettled", office.isSettled(household), true);
        Check.end();
    }
}
