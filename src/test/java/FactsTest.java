import java.util.NoSuchElementException;

/** Promises 1 to 10, 19, 20 and 31: what is told, taken back and asked of facts. */
public final class FactsTest {
    private static final String RULES = "acfrtpm";
    private static final int[] GREATEST = {99, 99, 99, 99, 999, 100, 999};
    private static final int[] FIRST = {10, 5, 3, 20, 15, 50, 60};
    private static final int[] NO_DAYS = {-1, 360, Integer.MIN_VALUE, Integer.MAX_VALUE};
    private static final int[] NO_NUMBERS = {-1, 1000, Integer.MIN_VALUE, Integer.MAX_VALUE};

    public static void main(String[] args) {
        newOffice();
        addPerson();
        addHousehold();
        move();
        moveRefuses();
        setIncome();
        setIncomeRefuses();
        setRent();
        setRentRefuses();
        setRule();
        setRuleRefuses();
        takeBackMove();
        takeBackIncome();
        takeBackRule();
        questionsRefuse();
        facts();
        Check.end();
    }

    /** Persons 0 (adult) and 1 (adult from the day 45 on), households 0 and 1, nobody lives anywhere. */
    private static void people(BenefitOffice office) {
        office.addPerson(0);
        office.addPerson(45);
        office.addHousehold();
        office.addHousehold();
    }

    private static BenefitOffice withPeople() {
        BenefitOffice office = new BenefitOffice();
        people(office);
        return office;
    }

    private static void nothing(BenefitOffice office) {
    }

    private static void newOffice() {
        BenefitOffice office = new BenefitOffice();
        Check.same("facts of a new office", office.facts(), 7);
        Check.same("paidMonths of a new office", office.paidMonths(), 0);
        Check.same("totalPaid of a new office", office.totalPaid(), 0L);
        Check.same("keptBack of a new office", office.keptBack(), 0L);
        Check.refused("a person of a new office", IndexOutOfBoundsException.class, FactsTest::nothing, x -> x.homeOf(0, 0));
        Check.refused("a household of a new office", IndexOutOfBoundsException.class, FactsTest::nothing, x -> x.balance(0));
        for (int i = 0; i < RULES.length(); i++) {
            Check.same("first day of rule " + RULES.charAt(i), office.ruleAt(RULES.charAt(i), 0), FIRST[i]);
            Check.same("last day of rule " + RULES.charAt(i), office.ruleAt(RULES.charAt(i), 359), FIRST[i]);
        }
    }

    private static void eightPersons(BenefitOffice office) {
        for (int i = 0; i < 8; i++) {
            office.addPerson(i);
        }
    }

    private static void addPerson() {
        BenefitOffice office = new BenefitOffice();
        int[] ages = {0, 999, 1, 359, 360, 30, 45, 500};
        for (int i = 0; i < ages.length; i++) {
            Check.same("addPerson", office.addPerson(ages[i]), i);
        }
        Check.same("home of a new person", office.homeOf(7, 0), -1);
        for (int age : NO_NUMBERS) {
            Check.refused("addPerson(" + age + ")", IllegalArgumentException.class, FactsTest::people, x -> x.addPerson(age));
            Check.refused("ninth addPerson(" + age + ")", IllegalArgumentException.class, FactsTest::eightPersons,
                    x -> x.addPerson(age));
        }
        Check.refused("ninth addPerson(0)", IllegalStateException.class, FactsTest::eightPersons, x -> x.addPerson(0));
        BenefitOffice refusing = new BenefitOffice();
        Check.same("addPerson(1000)", Check.answer(() -> refusing.addPerson(1000)), "IllegalArgumentException");
        Check.same("addPerson after a refusal", refusing.addPerson(5), 0);
    }

    private static void fourHouseholds(BenefitOffice office) {
        for (int i = 0; i < 4; i++) {
            office.addHousehold();
        }
    }

    private static void addHousehold() {
        BenefitOffice office = new BenefitOffice();
        for (int i = 0; i < 4; i++) {
            Check.same("addHousehold", office.addHousehold(), i);
        }
        Check.same("rent of a new household", office.setRent(3, 0, 0), 0);
        Check.refused("fifth addHousehold", IllegalStateException.class, FactsTest::fourHouseholds, x -> x.addHousehold());
    }

    private static void move() {
        BenefitOffice office = withPeople();
        Check.same("first move", office.move(0, 0, 20), -1);
        Check.same("home the day before", office.homeOf(0, 19), -1);
        Check.same("home on the day", office.homeOf(0, 20), 0);
        Check.same("home on the last day", office.homeOf(0, 359), 0);
        Check.same("later move", office.move(0, 1, 40), 0);
        Check.same("home up to the later move", office.homeOf(0, 39), 0);
        Check.same("home from the later move on", office.homeOf(0, 40), 1);
        Check.same("earlier move told late", office.move(0, 1, 10), -1);
        Check.same("home from the earlier move on", office.homeOf(0, 19), 1);
        Check.same("home from the next fact on", office.homeOf(0, 20), 0);
        Check.same("move to none", office.move(0, -1, 359), 1);
        Check.same("no home again", office.homeOf(0, 359), -1);
        Check.same("replacing move", office.move(0, -1, 20), 0);
        Check.same("replaced home", office.homeOf(0, 39), -1);
        Check.same("home after the replaced fact", office.homeOf(0, 40), 1);
        Check.same("the other person", office.homeOf(1, 40), -1);
        Check.same("move on the first day", office.move(1, 1, 0), -1);
        Check.same("home on the first day", office.homeOf(1, 0), 1);
        Check.same("facts after moves", office.facts(), 7 + 5);
    }

    private static void moveRefuses() {
        for (int nobody : new int[] {-1, 2, 8, Integer.MIN_VALUE, Integer.MAX_VALUE}) {
            Check.refused("move of nobody", IndexOutOfBoundsException.class, FactsTest::people, x -> x.move(nobody, 0, -1));
            Check.refused("takeBackMove of nobody", IndexOutOfBoundsException.class, FactsTest::people,
                    x -> x.takeBackMove(nobody, 0));
            Check.refused("homeOf nobody", IndexOutOfBoundsException.class, FactsTest::people, x -> x.homeOf(nobody, -1));
        }
        for (int nowhere : new int[] {-2, 2, 4, Integer.MIN_VALUE, Integer.MAX_VALUE}) {
            Check.refused("move to nowhere", IndexOutOfBoundsException.class, FactsTest::people, x -> x.move(0, nowhere, 0));
            Check.refused("move to nowhere, no day", IndexOutOfBoundsException.class, FactsTest::people,
                    x -> x.move(0, nowhere, 360));
        }
        for (int day : NO_DAYS) {
            Check.refused("move on no day", IllegalArgumentException.class, FactsTest::people, x -> x.move(0, 0, day));
            Check.refused("move to none on no day", IllegalArgumentException.class, FactsTest::people,
                    x -> x.move(0, -1, day));
        }
    }

    private static void setIncome() {
        BenefitOffice office = withPeople();
        office.move(0, 0, 0);
        Check.same("first income", office.setIncome(0, 999, 100), 0);
        Check.same("later income", office.setIncome(0, 0, 359), 999);
        Check.same("income told late", office.setIncome(0, 7, 0), 0);
        Check.same("income before the next fact", office.incomeOf(0, 99), 7);
        Check.same("income from the next fact on", office.incomeOf(0, 100), 999);
        Check.same("income up to the last fact", office.incomeOf(0, 358), 999);
        Check.same("income of the last day", office.incomeOf(0, 359), 0);
        Check.same("replacing income", office.setIncome(0, 8, 100), 999);
        Check.same("replaced income", office.incomeOf(0, 358), 8);
        Check.same("the other person", office.setIncome(1, 3, 100), 0);
        Check.same("facts after incomes", office.facts(), 7 + 5);
    }

    private static void setIncomeRefuses() {
        for (int nobody : new int[] {-1, 2, 8, Integer.MIN_VALUE, Integer.MAX_VALUE}) {
            Check.refused("setIncome of nobody", IndexOutOfBoundsException.class, FactsTest::people,
                    x -> x.setIncome(nobody, -1, -1));
            Check.refused("takeBackIncome of nobody", IndexOutOfBoundsException.class, FactsTest::people,
                    x -> x.takeBackIncome(nobody, 0));
        }
        for (int income : NO_NUMBERS) {
            Check.refused("setIncome " + income, IllegalArgumentException.class, FactsTest::people,
                    x -> x.setIncome(0, income, 0));
        }
        for (int day : NO_DAYS) {
            Check.refused("setIncome on " + day, IllegalArgumentException.class, FactsTest::people,
                    x -> x.setIncome(0, 5, day));
        }
    }

    private static void setRent() {
        BenefitOffice office = withPeople();
        Check.same("first rent", office.setRent(0, 999, 100), 0);
        Check.same("later rent", office.setRent(0, 0, 359), 999);
        Check.same("rent told late", office.setRent(0, 7, 0), 0);
        Check.same("replacing rent", office.setRent(0, 8, 100), 999);
        Check.same("rent of the first stretch", office.setRent(0, 7, 99), 7);
        Check.same("rent of the second stretch", office.setRent(0, 8, 358), 8);
        Check.same("the other household", office.setRent(1, 3, 100), 0);
        Check.same("facts after rents", office.facts(), 7 + 6);
    }

    private static void setRentRefuses() {
        for (int nowhere : new int[] {-1, 2, 4, Integer.MIN_VALUE, Integer.MAX_VALUE}) {
            Check.refused("setRent of nowhere", IndexOutOfBoundsException.class, FactsTest::people,
                    x -> x.setRent(nowhere, -1, -1));
        }
        for (int rent : NO_NUMBERS) {
            Check.refused("setRent " + rent, IllegalArgumentException.class, FactsTest::people, x -> x.setRent(0, rent, 0));
        }
        for (int day : NO_DAYS) {
            Check.refused("setRent on " + day, IllegalArgumentException.class, FactsTest::people, x -> x.setRent(0, 5, day));
        }
    }

    private static void setRule() {
        for (int i = 0; i < RULES.length(); i++) {
            char rule = RULES.charAt(i);
            BenefitOffice office = new BenefitOffice();
            Check.same("first setRule", office.setRule(rule, GREATEST[i], 30), FIRST[i]);
            Check.same("later setRule", office.setRule(rule, 0, 359), GREATEST[i]);
            Check.same("setRule told late", office.setRule(rule, 1, 20), FIRST[i]);
            Check.same("replaced first fact", office.setRule(rule, 2, 0), FIRST[i]);
            Check.same("replacing setRule", office.setRule(rule, 3, 30), GREATEST[i]);
            int[] days = {0, 19, 20, 29, 30, 358, 359};
            int[] values = {2, 2, 1, 1, 3, 3, 0};
            for (int k = 0; k < days.length; k++) {
                Check.same("ruleAt " + rule + " " + days[k], office.ruleAt(rule, days[k]), values[k]);
            }
            for (int k = 0; k < RULES.length(); k++) {
                Check.same("another rule", k == i || office.ruleAt(RULES.charAt(k), 30) == FIRST[k], true);
            }
            Check.same("facts after rules", office.facts(), 7 + 3);
        }
    }

    private static void setRuleRefuses() {
        for (char letter : new char[] {0, 'A', 'b', 'z', 'n', ' ', 255, 65535, 'a' + 256}) {
            Check.refused("setRule of no rule", NoSuchElementException.class, FactsTest::people,
                    x -> x.setRule(letter, -1, -1));
            Check.refused("ruleAt of no rule", NoSuchElementException.class, FactsTest::people, x -> x.ruleAt(letter, -1));
            Check.refused("takeBackRule of no rule", NoSuchElementException.class, FactsTest::people,
                    x -> x.takeBackRule(letter, 0));
        }
        for (int i = 0; i < RULES.length(); i++) {
            char rule = RULES.charAt(i);
            for (int value : new int[] {-1, GREATEST[i] + 1, Integer.MIN_VALUE, Integer.MAX_VALUE}) {
                Check.refused("setRule " + rule + " " + value, IllegalArgumentException.class, FactsTest::people,
                        x -> x.setRule(rule, value, 0));
            }
            for (int day : NO_DAYS) {
                Check.refused("setRule on " + day, IllegalArgumentException.class, FactsTest::people,
                        x -> x.setRule(rule, 5, day));
            }
        }
    }

    private static void movedTwice(BenefitOffice office) {
        people(office);
        office.move(0, 0, 10);
        office.move(0, -1, 50);
        office.move(0, 1, 359);
    }

    private static void takeBackMove() {
        BenefitOffice office = new BenefitOffice();
        movedTwice(office);
        Check.same("takeBackMove of none", office.takeBackMove(0, 50), -1);
        Check.same("home goes on", office.homeOf(0, 358), 0);
        Check.same("home from the next fact on", office.homeOf(0, 359), 1);
        Check.same("takeBackMove of the first", office.takeBackMove(0, 10), 0);
        Check.same("no home without facts", office.homeOf(0, 358), -1);
        Check.same("takeBackMove of the last day", office.takeBackMove(0, 359), 1);
        Check.same("no home at all", office.homeOf(0, 359), -1);
        office.move(0, 1, 0);
        Check.same("takeBackMove of the first day", office.takeBackMove(0, 0), 1);
        Check.same("no home on the first day", office.homeOf(0, 0), -1);
        Check.same("facts after all were taken back", office.facts(), 7);
        for (int day : new int[] {0, 9, 11, 51, 358, -1, 360, Integer.MIN_VALUE, Integer.MAX_VALUE}) {
            Check.refused("takeBackMove on " + day, NoSuchElementException.class, FactsTest::movedTwice,
                    x -> x.takeBackMove(0, day));
        }
        Check.refused("takeBackMove of the other", NoSuchElementException.class, FactsTest::movedTwice,
                x -> x.takeBackMove(1, 10));
        Check.refused("takeBackMove twice", NoSuchElementException.class,
                x -> { movedTwice(x); x.takeBackMove(0, 10); }, x -> x.takeBackMove(0, 10));
    }

    private static void earningTwice(BenefitOffice office) {
        people(office);
        office.move(0, 0, 0);
        office.setIncome(0, 5, 10);
        office.setIncome(0, 0, 50);
    }

    private static void takeBackIncome() {
        BenefitOffice office = new BenefitOffice();
        earningTwice(office);
        office.setIncome(0, 6, 10);
        Check.same("takeBackIncome of 0", office.takeBackIncome(0, 50), 0);
        Check.same("income goes on", office.incomeOf(0, 359), 6);
        Check.same("takeBackIncome of a replaced fact", office.takeBackIncome(0, 10), 6);
        Check.same("no income without facts", office.incomeOf(0, 359), 0);
        office.setIncome(0, 9, 0);
        Check.same("takeBackIncome of the first day", office.takeBackIncome(0, 0), 9);
        Check.same("no income on the first day", office.incomeOf(0, 0), 0);
        Check.same("facts after incomes were taken back", office.facts(), 8);
        for (int day : new int[] {0, 9, 11, 51, 359, -1, 360, Integer.MIN_VALUE, Integer.MAX_VALUE}) {
            Check.refused("takeBackIncome on " + day, NoSuchElementException.class, FactsTest::earningTwice,
                    x -> x.takeBackIncome(0, day));
        }
        Check.refused("takeBackIncome of the other", NoSuchElementException.class, FactsTest::earningTwice,
                x -> x.takeBackIncome(1, 10));
        Check.refused("takeBackIncome twice", NoSuchElementException.class,
                x -> { earningTwice(x); x.takeBackIncome(0, 10); }, x -> x.takeBackIncome(0, 10));
    }

    private static void takeBackRule() {
        for (int i = 0; i < RULES.length(); i++) {
            char rule = RULES.charAt(i);
            BenefitOffice office = new BenefitOffice();
            office.setRule(rule, 0, 359);
            office.setRule(rule, 1, 100);
            Check.same("takeBackRule", office.takeBackRule(rule, 100), 1);
            Check.same("rule goes on", office.ruleAt(rule, 358), FIRST[i]);
            Check.same("rule from the next fact on", office.ruleAt(rule, 359), 0);
            Check.same("takeBackRule of the last day", office.takeBackRule(rule, 359), 0);
            Check.same("rule of the last day", office.ruleAt(rule, 359), FIRST[i]);
            Check.same("facts after rules were taken back", office.facts(), 7);
            Check.refused("takeBackRule on 0", UnsupportedOperationException.class, FactsTest::people,
                    x -> x.takeBackRule(rule, 0));
            for (int day : new int[] {1, 99, 359, -1, 360, Integer.MIN_VALUE, Integer.MAX_VALUE}) {
                Check.refused("takeBackRule on " + day, NoSuchElementException.class, FactsTest::people,
                        x -> x.takeBackRule(rule, day));
            }
        }
        Check.refused("takeBackRule twice", NoSuchElementException.class,
                x -> { x.setRule('a', 1, 5); x.takeBackRule('a', 5); }, x -> x.takeBackRule('a', 5));
        Check.refused("takeBackRule of a replaced first fact", UnsupportedOperationException.class,
                x -> x.setRule('a', 1, 0), x -> x.takeBackRule('a', 0));
    }

    private static void questionsRefuse() {
        for (int day : NO_DAYS) {
            Check.refused("homeOf on " + day, IllegalArgumentException.class, FactsTest::people, x -> x.homeOf(0, day));
            Check.refused("ruleAt on " + day, IllegalArgumentException.class, FactsTest::people, x -> x.ruleAt('a', day));
        }
    }

    private static void facts() {
        BenefitOffice office = withPeople();
        Check.same("facts without any told", office.facts(), 7);
        office.move(0, -1, 0);
        office.setIncome(0, 0, 0);
        office.setRent(0, 0, 0);
        Check.same("facts that tell nothing new", office.facts(), 10);
        office.move(0, 0, 0);
        office.setIncome(0, 1, 0);
        office.setRent(0, 1, 0);
        office.setRule('m', 60, 0);
        Check.same("facts after replacing", office.facts(), 10);
        office.setRule('m', 60, 1);
        Check.same("facts after another", office.facts(), 11);
        office.takeBackMove(0, 0);
        office.takeBackIncome(0, 0);
        office.takeBackRule('m', 1);
        Check.same("facts after taking back", office.facts(), 8);
    }
}
