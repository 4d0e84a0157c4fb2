import java.util.List;
import java.util.NoSuchElementException;
import java.util.TreeSet;

/**
 * The boundary cases of facts, persons, households and rules (Terms, promises 1 to 10, 19, 20, 31): above each test
 * stands the sentence of the document that it holds to. What is refused stands in RefusalsTest.
 */
public final class FactEdgesTest {
    private static final String RULES = "acfrtpm";
    private static final int[] GREATEST = {99, 99, 99, 99, 999, 100, 999};
    private static final int[] FIRST = {10, 5, 3, 20, 15, 50, 60};
    private static final int LAST_DAY = 359;

    /** A kind of facts about one person, household or rule; the values to tell are at least 1 and at most 3. */
    private interface Kind {
        int tell(BenefitOffice office, int value, int day);

        int takeBack(BenefitOffice office, int day);

        int asked(BenefitOffice office, int day);

        int first();
    }

    /** The home of person 0: the households 1 to 3, none at first. */
    private static final class Homes implements Kind {
        public int tell(BenefitOffice office, int value, int day) {
            return office.move(0, value, day);
        }

        public int takeBack(BenefitOffice office, int day) {
            return office.takeBackMove(0, day);
        }

        public int asked(BenefitOffice office, int day) {
            return office.homeOf(0, day);
        }

        public int first() {
            return -1;
        }
    }

    /** The income of person 1, who lives in household 0 alone. */
    private static final class Incomes implements Kind {
        public int tell(BenefitOffice office, int value, int day) {
            return office.setIncome(1, value, day);
        }

        public int takeBack(BenefitOffice office, int day) {
            return office.takeBackIncome(1, day);
        }

        public int asked(BenefitOffice office, int day) {
            return office.incomeOf(0, day);
        }

        public int first() {
            return 0;
        }
    }

    /** The rent of household 0, seen as its housing amount; it is never taken back. */
    private static final class Rents implements Kind {
        public int tell(BenefitOffice office, int value, int day) {
            return office.setRent(0, value, day);
        }

        public int takeBack(BenefitOffice office, int day) {
            throw new UnsupportedOperationException();
        }

        public int asked(BenefitOffice office, int day) {
            return office.housingAmount(0, day);
        }

        public int first() {
            return 0;
        }
    }

    private static final class Rule implements Kind {
        private final int index;

        Rule(int index) {
            this.index = index;
        }

        public int tell(BenefitOffice office, int value, int day) {
            return office.setRule(RULES.charAt(index), value, day);
        }

        public int takeBack(BenefitOffice office, int day) {
            return office.takeBackRule(RULES.charAt(index), day);
        }

        public int asked(BenefitOffice office, int day) {
            return office.ruleAt(RULES.charAt(index), day);
        }

        public int first() {
            return FIRST[index];
        }
    }

    public static void main(String[] args) {
        Kind[] kinds = {new Homes(), new Incomes(), new Rents(), new Rule(0), new Rule(1), new Rule(2), new Rule(3),
                new Rule(4), new Rule(5), new Rule(6)};
        for (Kind kind : kinds) {
            noFactHolds(kind);
            firstAndLastDay(kind);
            upToTheDayBefore(kind);
            toldLate(kind);
            replaces(kind);
            sameValueAgain(kind);
            everyDay(kind);
            eachDayFromOn(kind);
            if (!(kind instanceof Rents)) {
                eachDayExactly(kind);
                takenBackAndToldAgain(kind);
                takenBackOnTheEdges(kind);
                allTakenBack(kind);
            }
        }
        replacedFactIsGone(new Homes());
        replacedFactIsGone(new Incomes());
        replacedFactIsGone(new Rule(6));
        newOffice();
        greatestPersons();
        greatestHouseholds();
        leastAndGreatestNumbers();
        leastAndGreatestHomes();
        leastAndGreatestValues();
        firstFactOfARule();
        aFactOfNoneIsAFact();
        kindsAndOthersApart();
        factsOfPersonsAndHouseholds();
        countsFacts();
        Check.end();
    }

    /** Three persons and four households; person 1 lives in household 0, all alone, and the others nowhere. */
    private static BenefitOffice office() {
        BenefitOffice office = new BenefitOffice();
        for (int i = 0; i < 3; i++) {
            office.addPerson(0);
        }
        for (int i = 0; i < 4; i++) {
            office.addHousehold();
        }
        office.move(1, 0, 0);
        return office;
    }

    /** Days in ascending order, each with the value that holds from it on. */
    private static void holds(String what, Kind kind, BenefitOffice office, int... daysAndValues) {
        for (int day : daysToAsk(daysAndValues)) {
            int due = kind.first();
            for (int i = 0; i < daysAndValues.length && daysAndValues[i] <= day; i += 2) {
                due = daysAndValues[i + 1];
            }
            Check.same(kind.getClass().getSimpleName() + ": " + what + ", on " + day, kind.asked(office, day), due);
        }
    }

    /** The days of facts and those beside, or each seventh day if there are many, to stay under 512 calls. */
    private static TreeSet<Integer> daysToAsk(int[] daysAndValues) {
        TreeSet<Integer> days = new TreeSet<>(List.of(0, 1, 180, LAST_DAY - 1, LAST_DAY));
        for (int day = 0; day <= LAST_DAY && daysAndValues.length > 20; day += 7) {
            days.add(day);
        }
        for (int i = 0; i < daysAndValues.length && daysAndValues.length <= 20; i += 2) {
            days.addAll(List.of(daysAndValues[i] - 1, daysAndValues[i], daysAndValues[i] + 1));
        }
        days.remove(-1);
        days.remove(LAST_DAY + 1);
        return days;
    }

    /** "Where no fact holds, a person has no home, and an income and a rent are 0; for each rule, a fact is told for the day 0 from the beginning." */
    private static void noFactHolds(Kind kind) {
        BenefitOffice office = office();
        holds("nothing told", kind, office);
        Check.same("the first told answers what held before", kind.tell(office, 3, 100), kind.first());
        holds("nothing told before the first fact", kind, office, 100, 3);
    }

    /** "Days are numbered from 0 to 359." */
    private static void firstAndLastDay(Kind kind) {
        BenefitOffice office = office();
        Check.same("told for the last day", kind.tell(office, 2, LAST_DAY), kind.first());
        holds("told for the last day", kind, office, LAST_DAY, 2);
        Check.same("told for the first day", kind.tell(office, 1, 0), kind.first());
        holds("told for the first day", kind, office, 0, 1, LAST_DAY, 2);
        Check.same("told for the last day again", kind.tell(office, 3, LAST_DAY), 2);
        holds("told for the last day again", kind, office, 0, 1, LAST_DAY, 3);
    }

    /** "It holds from this day on, up to the day before the next fact of the same kind about the same person, household or rule." */
    private static void upToTheDayBefore(Kind kind) {
        BenefitOffice office = office();
        kind.tell(office, 1, 10);
        Check.same("told for the next day", kind.tell(office, 2, 11), 1);
        holds("a fact of one day", kind, office, 10, 1, 11, 2);
        Check.same("told for the day before", kind.tell(office, 3, 9), kind.first());
        holds("facts of one day", kind, office, 9, 3, 10, 1, 11, 2);
        kind.tell(office, 1, LAST_DAY);
        kind.tell(office, 3, LAST_DAY - 1);
        holds("the last facts of one day", kind, office, 9, 3, 10, 1, 11, 2, LAST_DAY - 1, 3, LAST_DAY, 1);
        kind.tell(office, 2, 1);
        kind.tell(office, 1, 0);
        holds("the first facts of one day", kind, office, 0, 1, 1, 2, 9, 3, 10, 1, 11, 2, LAST_DAY - 1, 3, LAST_DAY, 1);
    }

    /** "facts ... can be told late": a later fact goes on to hold when one is told before it. */
    private static void toldLate(Kind kind) {
        BenefitOffice office = office();
        for (int day = LAST_DAY; day > 0; day -= 120) {
            kind.tell(office, 1 + day % 3, day);
        }
        holds("told from the last day down", kind, office, 119, 3, 239, 3, 359, 3);
        Check.same("told late between two", kind.tell(office, 1, 238), 3);
        holds("told late between two", kind, office, 119, 3, 238, 1, 239, 3);
    }

    /** "A fact that is told for a day for which there is one ... replaces that one." */
    private static void replaces(Kind kind) {
        BenefitOffice office = office();
        kind.tell(office, 1, 50);
        kind.tell(office, 2, 60);
        int facts = office.facts();
        Check.same("the replaced value", kind.tell(office, 3, 50), 1);
        Check.same("the value that replaces", kind.tell(office, 2, 50), 3);
        Check.same("a replaced fact counts once", office.facts(), facts);
        kind.tell(office, 3, 50);
        holds("replaced", kind, office, 50, 3, 60, 2);
    }

    /** A fact with the value that holds anyhow is a fact: it goes on to hold when the one before it is replaced. */
    private static void sameValueAgain(Kind kind) {
        BenefitOffice office = office();
        kind.tell(office, 1, 50);
        int facts = office.facts();
        Check.same("the same value told later", kind.tell(office, 1, 60), 1);
        Check.same("a fact of the same value counts", office.facts(), facts + 1);
        kind.tell(office, 2, 50);
        holds("the same value told later", kind, office, 50, 2, 60, 1);
    }

    /** All days are full: a fact is told for each. */
    private static void everyDay(Kind kind) {
        BenefitOffice office = office();
        int before = office.facts();
        int[] due = new int[2 * (LAST_DAY + 1)];
        for (int day = 0; day <= LAST_DAY; day++) {
            kind.tell(office, 1 + day % 3, day);
            due[2 * day] = day;
            due[2 * day + 1] = 1 + day % 3;
        }
        Check.same("facts of every day", office.facts(), before + LAST_DAY + (kind instanceof Rule ? 0 : 1));
        holds("a fact for every day", kind, office, due);
    }

    /** "It holds from this day on, up to the day before the next fact": for each day, asked on all days. */
    private static void eachDayFromOn(Kind kind) {
        for (int told = 1; told <= LAST_DAY; told++) {
            BenefitOffice office = office();
            kind.tell(office, 2, told);
            kind.tell(office, 1, 0);
            int wrong = 0;
            for (int day = 0; day <= LAST_DAY; day++) {
                wrong += kind.asked(office, day) == (day < told ? 1 : 2) ? 0 : 1;
            }
            Check.same("days on which a fact told for " + told + " does not hold from it on", wrong, 0);
        }
    }

    /** "if no such fact is told for exactly this day": for each day, all other days are refused. */
    private static void eachDayExactly(Kind kind) {
        int least = kind instanceof Rule ? 1 : 0;
        for (int told = least; told <= LAST_DAY; told++) {
            BenefitOffice office = office();
            kind.tell(office, 3, told);
            int found = 0;
            for (int day = least; day <= LAST_DAY; day++) {
                found += day == told || !isTold(kind, office, day) ? 0 : 1;
            }
            Check.same("days on which a fact told for " + told + " is not told", found, 0);
            Check.same("the fact told for " + told, kind.takeBack(office, told), 3);
            Check.same("the fact told for " + told + " is gone", isTold(kind, office, told), false);
        }
    }

    private static boolean isTold(Kind kind, BenefitOffice office, int day) {
        try {
            kind.takeBack(office, day);
            return true;
        } catch (NoSuchElementException e) {
            return false;
        }
    }

    /** A fact that is taken back can be told again. */
    private static void takenBackAndToldAgain(Kind kind) {
        BenefitOffice office = office();
        int facts = office.facts();
        kind.tell(office, 1, 100);
        for (int i = 0; i < 3; i++) {
            Check.same("told", kind.tell(office, 2, 200), 1);
            Check.same("facts told", office.facts(), facts + 2);
            holds("told", kind, office, 100, 1, 200, 2);
            Check.same("taken back", kind.takeBack(office, 200), 2);
            Check.same("facts after one was taken back", office.facts(), facts + 1);
            holds("taken back", kind, office, 100, 1);
        }
        Check.same("taken back twice", Check.answer(() -> kind.takeBack(office, 200)), "NoSuchElementException");
        Check.same("told again", kind.tell(office, 3, 200), 1);
        Check.same("taken back again", kind.takeBack(office, 200), 3);
    }

    /** Facts are taken back on the last day, on the first one that can be, and between facts of the days beside. */
    private static void takenBackOnTheEdges(Kind kind) {
        BenefitOffice office = office();
        kind.tell(office, 1, LAST_DAY - 1);
        kind.tell(office, 2, LAST_DAY);
        Check.same("taken back on the last day", kind.takeBack(office, LAST_DAY), 2);
        holds("taken back on the last day", kind, office, LAST_DAY - 1, 1);
        kind.tell(office, 3, LAST_DAY);
        Check.same("taken back on the day before the last", kind.takeBack(office, LAST_DAY - 1), 1);
        holds("taken back on the day before the last", kind, office, LAST_DAY, 3);
        kind.tell(office, 1, 1);
        kind.tell(office, 2, 2);
        kind.tell(office, 3, 3);
        Check.same("taken back between two", kind.takeBack(office, 2), 2);
        holds("taken back between two", kind, office, 1, 1, 3, 3);
        Check.same("taken back on the day 1", kind.takeBack(office, 1), 1);
        holds("taken back on the day 1", kind, office, 3, 3);
    }

    /** "facts ... can be ... taken back": when all are, nothing is told. */
    private static void allTakenBack(Kind kind) {
        BenefitOffice office = office();
        int facts = office.facts();
        int least = kind instanceof Rule ? 1 : 0;
        for (int day = least; day <= LAST_DAY; day += 4) {
            kind.tell(office, 1 + day % 3, day);
        }
        for (int day = least; day <= LAST_DAY; day += 4) {
            Check.same("taken back in ascending order", kind.takeBack(office, day), 1 + day % 3);
        }
        Check.same("facts when all are taken back", office.facts(), facts);
        holds("all taken back", kind, office);
    }

    /** "... replaces that one": what was replaced does not come back. */
    private static void replacedFactIsGone(Kind kind) {
        BenefitOffice office = office();
        kind.tell(office, 1, 50);
        kind.tell(office, 2, 50);
        Check.same("a replaced fact is taken back", kind.takeBack(office, 50), 2);
        holds("a replaced fact was taken back", kind, office);
        Check.same("there is no second one", Check.answer(() -> kind.takeBack(office, 50)), "NoSuchElementException");
    }

    /** "Creates an office without persons and households." */
    private static void newOffice() {
        BenefitOffice office = new BenefitOffice();
        Check.same("a new office has the facts of rules", office.facts(), 7);
        Check.same("a new office has no person", Check.answer(() -> office.homeOf(0, 0)), "IndexOutOfBoundsException");
        Check.same("a new office has no household", Check.answer(() -> office.adults(0, 0)), "IndexOutOfBoundsException");
        Check.same("its first person", office.addPerson(0), 0);
        Check.same("its first household", office.addHousehold(), 0);
        BenefitOffice other = new BenefitOffice();
        Check.same("offices know nothing of one another", other.facts(), 7);
        office.setRule('a', 1, 0);
        Check.same("offices do not share rules", other.ruleAt('a', 0), 10);
        Check.same("offices do not share persons", other.addPerson(0), 0);
    }

    /** "There are at most 8 persons ..., each numbered from 0 in the order in which they were added." */
    private static void greatestPersons() {
        BenefitOffice office = new BenefitOffice();
        office.addHousehold();
        for (int i = 0; i < 8; i++) {
            int person = i;
            Check.same("person before it is added", Check.answer(() -> office.homeOf(person, 0)),
                    "IndexOutOfBoundsException");
            Check.same("the number of a person", office.addPerson(i), i);
            Check.same("a new person has no home", office.homeOf(i, 0), -1);
        }
        for (int i = 0; i < 3; i++) {
            Check.same("a ninth person", Check.answer(() -> office.addPerson(0)), "IllegalStateException");
        }
        Check.same("there is no person 8", Check.answer(() -> office.homeOf(8, 0)), "IndexOutOfBoundsException");
        Check.same("the last person moves", office.move(7, 0, 0), -1);
        for (int day = 0; day < 8; day++) {
            Check.same("the day of age of the last person, on " + day, office.adults(0, day), day < 7 ? 0 : 1);
        }
    }

    /** "There are at most ... 4 households, each numbered from 0 in the order in which they were added." */
    private static void greatestHouseholds() {
        BenefitOffice office = new BenefitOffice();
        office.addPerson(0);
        for (int i = 0; i < 4; i++) {
            int household = i;
            Check.same("household before it is added", Check.answer(() -> office.move(0, household, 0)),
                    "IndexOutOfBoundsException");
            Check.same("the number of a household", office.addHousehold(), i);
            Check.same("nobody lives in a new household", office.adults(i, 0) + office.children(i, 0), 0);
        }
        for (int i = 0; i < 3; i++) {
            Check.same("a fifth household", Check.answer(office::addHousehold), "IllegalStateException");
        }
        Check.same("there is no household 4", Check.answer(() -> office.move(0, 4, 0)), "IndexOutOfBoundsException");
        Check.same("there is the household 3", office.move(0, 3, 0), -1);
    }

    /** "age: the day of age, 0 to 999", "income: the income, 0 to 999", "rent: the rent, 0 to 999". */
    private static void leastAndGreatestNumbers() {
        BenefitOffice office = new BenefitOffice();
        office.addHousehold();
        Check.same("least age", office.addPerson(0), 0);
        Check.same("greatest age", office.addPerson(999), 1);
        Check.same("age too small", Check.answer(() -> office.addPerson(-1)), "IllegalArgumentException");
        Check.same("age too great", Check.answer(() -> office.addPerson(1000)), "IllegalArgumentException");
        Check.same("no person by a refusal", office.addPerson(1), 2);
        office.setIncome(0, 999, 5);
        Check.same("greatest income", office.setIncome(0, 0, 5), 999);
        Check.same("least income", office.setIncome(0, 1, 5), 0);
        Check.same("income too small", Check.answer(() -> office.setIncome(0, -1, 5)), "IllegalArgumentException");
        Check.same("income too great", Check.answer(() -> office.setIncome(0, 1000, 5)), "IllegalArgumentException");
        Check.same("income after refusals", office.setIncome(0, 0, 5), 1);
        office.setRent(0, 999, 5);
        Check.same("greatest rent", office.setRent(0, 0, 5), 999);
        Check.same("least rent", office.setRent(0, 1, 5), 0);
        Check.same("rent too small", Check.answer(() -> office.setRent(0, -1, 5)), "IllegalArgumentException");
        Check.same("rent too great", Check.answer(() -> office.setRent(0, 1000, 5)), "IllegalArgumentException");
        Check.same("rent after refusals", office.setRent(0, 0, 5), 1);
    }

    /** "household: the number of the household, or -1 for none". */
    private static void leastAndGreatestHomes() {
        BenefitOffice office = office();
        Check.same("from none to none", office.move(0, -1, 5), -1);
        Check.same("from none to the last household", office.move(0, 3, 5), -1);
        Check.same("from the last household to the first", office.move(0, 0, 5), 3);
        Check.same("from the first household to none", office.move(0, -1, 5), 0);
        Check.same("household below none", Check.answer(() -> office.move(0, -2, 5)), "IndexOutOfBoundsException");
        Check.same("household above the last", Check.answer(() -> office.move(0, 4, 5)), "IndexOutOfBoundsException");
        Check.same("home after refusals", office.homeOf(0, 5), -1);
    }

    /** "Each rule has ... the greatest value that it can have, and the value for the day 0 ... The least value of all rules is 0." */
    private static void leastAndGreatestValues() {
        BenefitOffice office = new BenefitOffice();
        for (int i = 0; i < RULES.length(); i++) {
            char rule = RULES.charAt(i);
            int greatest = GREATEST[i];
            Check.same("the value for the day 0 of " + rule, office.ruleAt(rule, 0), FIRST[i]);
            Check.same("greatest value of " + rule, office.setRule(rule, greatest, 0), FIRST[i]);
            Check.same("least value of " + rule, office.setRule(rule, 0, 0), greatest);
            Check.same("greatest value again of " + rule, office.setRule(rule, greatest, 0), 0);
            Check.same("value too great of " + rule, Check.answer(() -> office.setRule(rule, greatest + 1, 0)),
                    "IllegalArgumentException");
            Check.same("value too small of " + rule, Check.answer(() -> office.setRule(rule, -1, 0)),
                    "IllegalArgumentException");
            Check.same("value after refusals of " + rule, office.ruleAt(rule, 0), greatest);
        }
        Check.same("the facts of day 0 are replaced", office.facts(), 7);
    }

    /** "for each rule, a fact is told for the day 0 from the beginning" and takeBackRule's "if the day is 0". */
    private static void firstFactOfARule() {
        for (int i = 0; i < RULES.length(); i++) {
            char rule = RULES.charAt(i);
            BenefitOffice office = new BenefitOffice();
            Check.same("the first fact stays", Check.answer(() -> office.takeBackRule(rule, 0)),
                    "UnsupportedOperationException");
            office.setRule(rule, 1, 0);
            Check.same("a replaced first fact stays", Check.answer(() -> office.takeBackRule(rule, 0)),
                    "UnsupportedOperationException");
            Check.same("its value stays", office.ruleAt(rule, LAST_DAY), 1);
            office.setRule(rule, 2, 1);
            Check.same("the fact of the day 1 is taken back", office.takeBackRule(rule, 1), 2);
            Check.same("then that of the day 0 holds", office.ruleAt(rule, 1), 1);
            Check.same("no fact of the day -1", Check.answer(() -> office.takeBackRule(rule, -1)),
                    "NoSuchElementException");
        }
    }

    /** A fact that tells none, or 0, is a fact: it can be taken back, and ends the one before. */
    private static void aFactOfNoneIsAFact() {
        BenefitOffice office = office();
        Check.same("no home told", office.move(0, -1, 20), -1);
        Check.same("no income told", office.setIncome(1, 0, 20), 0);
        Check.same("no rent told", office.setRent(0, 0, 20), 0);
        office.move(0, 2, 10);
        office.setIncome(1, 7, 10);
        office.setRent(0, 7, 10);
        Check.same("home up to the fact of none", office.homeOf(0, 19), 2);
        Check.same("home from the fact of none on", office.homeOf(0, 20), -1);
        Check.same("income up to the fact of 0", office.incomeOf(0, 19), 7);
        Check.same("income from the fact of 0 on", office.incomeOf(0, 20), 0);
        Check.same("rent up to the fact of 0", office.housingAmount(0, 19), 7);
        Check.same("rent from the fact of 0 on", office.housingAmount(0, 20), 0);
        Check.same("the fact of none is taken back", office.takeBackMove(0, 20), -1);
        Check.same("the fact of 0 is taken back", office.takeBackIncome(1, 20), 0);
        Check.same("home goes on", office.homeOf(0, 20), 2);
        Check.same("income goes on", office.incomeOf(0, 20), 7);
    }

    /** "There are four kinds of facts ... of the same kind about the same person, household or rule." */
    private static void kindsAndOthersApart() {
        BenefitOffice office = office();
        office.move(0, 2, 10);
        office.setIncome(0, 40, 10);
        Check.refused("no home fact by an income", NoSuchElementException.class, x -> told(x, true), x -> x.takeBackMove(0, 10));
        Check.refused("no income fact by a home", NoSuchElementException.class, x -> told(x, false),
                x -> x.takeBackIncome(0, 10));
        Check.refused("no home fact of another", NoSuchElementException.class, x -> told(x, false),
                x -> x.takeBackMove(1, 10));
        Check.refused("no income fact of another", NoSuchElementException.class, x -> told(x, true),
                x -> x.takeBackIncome(1, 10));
        Check.same("home is taken back alone", office.takeBackMove(0, 10), 2);
        Check.same("the income is still told", office.takeBackIncome(0, 10), 40);
        for (int i = 0; i < RULES.length(); i++) {
            char rule = RULES.charAt(i);
            char other = RULES.charAt((i + 1) % RULES.length());
            office.setRule(rule, 1, 30);
            Check.same("no fact of another rule", Check.answer(() -> office.takeBackRule(other, 30)),
                    "NoSuchElementException");
            Check.same("another rule holds on", office.ruleAt(other, 30), FIRST[(i + 1) % RULES.length()]);
            Check.same("the rule's own fact", office.takeBackRule(rule, 30), 1);
        }
    }

    private static void told(BenefitOffice office, boolean income) {
        office.addPerson(0);
        office.addPerson(0);
        office.addHousehold();
        if (income) {
            office.setIncome(0, 40, 10);
        } else {
            office.move(0, 0, 10);
        }
    }

    /** The first and the last person and household have facts of their own. */
    private static void factsOfPersonsAndHouseholds() {
        BenefitOffice office = new BenefitOffice();
        for (int i = 0; i < 4; i++) {
            office.addHousehold();
        }
        for (int i = 0; i < 8; i++) {
            office.addPerson(0);
            Check.same("home of person " + i, office.move(i, i / 2, 3), -1);
            Check.same("income of person " + i, office.setIncome(i, 1 << i, 3), 0);
        }
        for (int i = 0; i < 4; i++) {
            Check.same("rent of household " + i, office.setRent(i, 10 + i, 3), 0);
            Check.same("two live in household " + i, office.adults(i, 3), 2);
            Check.same("nobody lives there before", office.adults(i, 2), 0);
            Check.same("income of household " + i, office.incomeOf(i, 3), 3 << 2 * i);
        }
        for (int i = 0; i < 8; i++) {
            Check.same("income told of person " + i, office.takeBackIncome(i, 3), 1 << i);
            Check.same("home told of person " + i, office.takeBackMove(i, 3), i / 2);
        }
        for (int i = 0; i < 4; i++) {
            Check.same("rent told of household " + i, office.setRent(i, 0, 3), 10 + i);
            Check.same("nobody is left in household " + i, office.adults(i, 3), 0);
        }
    }

    /** "Returns the number of facts that are told, those for the day 0 that rules have from the beginning included." */
    private static void countsFacts() {
        BenefitOffice office = new BenefitOffice();
        Check.same("facts at first", office.facts(), 7);
        office.addPerson(0);
        office.addHousehold();
        Check.same("persons and households are no facts", office.facts(), 7);
        for (int day = 0; day < 90; day++) {
            office.move(0, day % 2 - 1, 4 * day);
            office.setIncome(0, 0, 4 * day);
            office.setRent(0, 0, 4 * day);
            office.setRule('a', 10, 4 * day);
        }
        Check.same("facts of 90 days", office.facts(), 7 + 4 * 90 - 1);
        office.pay();
        Check.same("a run tells no facts", office.facts(), 7 + 4 * 90 - 1);
        for (int day = 0; day < 45; day++) {
            office.takeBackMove(0, 4 * day);
        }
        Check.same("facts when 45 are taken back", office.facts(), 7 + 4 * 90 - 1 - 45);
    }
}
