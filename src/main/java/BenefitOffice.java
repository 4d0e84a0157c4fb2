import java.util.Arrays;
import java.util.NoSuchElementException;

/**
 * A calculator of benefits for households: facts hold from a day on, and can be told late and taken back;
 * months are paid one after the other, and later payments correct what was paid too much or too little before.
 */
public final class BenefitOffice {

    private static final int DAYS = 360;
    private static final int MONTHS = 12;
    private static final int DAYS_OF_MONTH = 30;
    private static final int MOST_PERSONS = 8;
    private static final int MOST_HOUSEHOLDS = 4;
    private static final int GREATEST_NUMBER = 999;
    private static final int NO_HOME = -1;
    private static final int KEPT_PART = 5;

    private static final int ADULT_RATE = 0;
    private static final int CHILD_RATE = 1;
    private static final int CHILDREN_EXTRA = 2;
    private static final int RENT_LIMIT = 3;
    private static final int THRESHOLD = 4;
    private static final int PERCENTAGE = 5;
    private static final int CAP = 6;
    private static final int RULES = 7;
    private static final char[] RULE_LETTERS = {'a', 'c', 'f', 'r', 't', 'p', 'm'};
    private static final int[] RULE_GREATEST = {99, 99, 99, 99, 999, 100, 999};
    private static final int[] RULE_FIRST = {10, 5, 3, 20, 15, 50, 60};

    private final Person[] persons = new Person[MOST_PERSONS];
    private final Household[] households = new Household[MOST_HOUSEHOLDS];
    private final Timeline[] rules = new Timeline[RULES];
    private int personCount;
    private int householdCount;

    // How many facts are told for a day, and how many persons become adults on it: where this is 0, a stretch goes on.
    private final int[] startsOn = new int[DAYS];
    private int factCount;

    private int runs;
    private int paymentCount;
    private long paidInAll;
    private long keptInAll;

    // Made once and filled again by each call, so that no call makes objects.
    private final Residents residents = new Residents();
    private final Amounts amounts = new Amounts();
    private final int[] entitled = new int[MONTHS];

    public BenefitOffice() {
        for (int i = 0; i < MOST_PERSONS; i++) {
            persons[i] = new Person();
        }
        for (int i = 0; i < MOST_HOUSEHOLDS; i++) {
            households[i] = new Household();
        }
        for (int i = 0; i < RULES; i++) {
            rules[i] = new Timeline(0);
            tell(rules[i], RULE_FIRST[i], 0);
        }
    }

    // ---- persons, households and facts

    public int addPerson(int age) throws IllegalArgumentException, IllegalStateException {
        requireNumber(age);
        if (personCount >= MOST_PERSONS) {
            throw new IllegalStateException("there are 8 persons");
        }
        persons[personCount].age = age;
        if (age < DAYS) {
            startsOn[age]++;
        }
        personCount++;
        return personCount - 1;
    }

    public int addHousehold() throws IllegalStateException {
        if (householdCount >= MOST_HOUSEHOLDS) {
            throw new IllegalStateException("there are 4 households");
        }
        householdCount++;
        return householdCount - 1;
    }

    public int move(int person, int household, int day) throws IndexOutOfBoundsException, IllegalArgumentException {
        Person mover = personNumbered(person);
        if (household != NO_HOME) {
            requireHousehold(household);
        }
        requireDay(day);
        return tell(mover.home, household, day);
    }

    public int setIncome(int person, int income, int day) throws IndexOutOfBoundsException, IllegalArgumentException {
        Person earner = personNumbered(person);
        requireNumber(income);
        requireDay(day);
        return tell(earner.income, income, day);
    }

    public int setRent(int household, int rent, int day) throws IndexOutOfBoundsException, IllegalArgumentException {
        Household tenant = householdNumbered(household);
        requireNumber(rent);
        requireDay(day);
        return tell(tenant.rent, rent, day);
    }

    public int setRule(char rule, int value, int day) throws NoSuchElementException, IllegalArgumentException {
        int index = ruleIndex(rule);
        if (value < 0 || value > RULE_GREATEST[index]) {
            throw new IllegalArgumentException("the value is out of the range of the rule");
        }
        requireDay(day);
        return tell(rules[index], value, day);
    }

    public int takeBackMove(int person, int day) throws IndexOutOfBoundsException, NoSuchElementException {
        Person mover = personNumbered(person);
        requireFact(mover.home, day);
        return takeBack(mover.home, day);
    }

    public int takeBackIncome(int person, int day) throws IndexOutOfBoundsException, NoSuchElementException {
        Person earner = personNumbered(person);
        requireFact(earner.income, day);
        return takeBack(earner.income, day);
    }

    public int takeBackRule(char rule, int day) throws NoSuchElementException, UnsupportedOperationException {
        Timeline values = rules[ruleIndex(rule)];
        requireFact(values, day);
        if (day == 0) {
            throw new UnsupportedOperationException("a rule keeps its fact for the day 0");
        }
        return takeBack(values, day);
    }

    // ---- payments

    public int pay() throws IllegalStateException {
        if (runs >= MONTHS) {
            throw new IllegalStateException("there was a run for each month");
        }
        int sum = 0;
        for (int i = 0; i < householdCount; i++) {
            sum += payTo(i, runs);
        }
        runs++;
        paymentCount += householdCount;
        paidInAll += sum;
        return sum;
    }

    public int paidMonths() {
        return runs;
    }

    public int payment(int household, int month) throws IndexOutOfBoundsException, NoSuchElementException {
        Household receiver = householdNumbered(household);
        requireMonth(month);
        if (month >= runs) {
            throw new NoSuchElementException("there was no run for this month yet");
        }
        return receiver.payments[month];
    }

    public int paidFor(int household, int month) throws IndexOutOfBoundsException {
        Household receiver = householdNumbered(household);
        requireMonth(month);
        return receiver.paid[month];
    }

    public int balance(int household) throws IndexOutOfBoundsException {
        Household receiver = householdNumbered(household);
        int sum = 0;
        for (int month = 0; month < runs; month++) {
            sum += sumByStretches(household, month) - receiver.paid[month];
        }
        return sum;
    }

    public boolean isSettled(int household) throws IndexOutOfBoundsException {
        Household receiver = householdNumbered(household);
        for (int month = 0; month < runs; month++) {
            if (sumByStretches(household, month) != receiver.paid[month]) {
                return false;
            }
        }
        return true;
    }

    public long totalPaid() {
        return paidInAll;
    }

    public long keptBack() {
        return keptInAll;
    }

    // ---- questions about days

    public int homeOf(int person, int day) throws IndexOutOfBoundsException, IllegalArgumentException {
        Person resident = personNumbered(person);
        requireDay(day);
        return resident.home.valueOn(day);
    }

    public int ruleAt(char rule, int day) throws NoSuchElementException, IllegalArgumentException {
        int index = ruleIndex(rule);
        requireDay(day);
        return rules[index].valueOn(day);
    }

    public int adults(int household, int day) throws IndexOutOfBoundsException, IllegalArgumentException {
        requireHousehold(household);
        requireDay(day);
        findResidents(household, day);
        return residents.adults;
    }

    public int children(int household, int day) throws IndexOutOfBoundsException, IllegalArgumentException {
        requireHousehold(household);
        requireDay(day);
        findResidents(household, day);
        return residents.children;
    }

    public int incomeOf(int household, int day) throws IndexOutOfBoundsException, IllegalArgumentException {
        requireHousehold(household);
        requireDay(day);
        findResidents(household, day);
        return residents.income;
    }

    public int adultAmount(int household, int day) throws IndexOutOfBoundsException, IllegalArgumentException {
        requireHousehold(household);
        requireDay(day);
        findAmounts(household, day);
        return amounts.adult;
    }

    public int childAmount(int household, int day) throws IndexOutOfBoundsException, IllegalArgumentException {
        requireHousehold(household);
        requireDay(day);
        findAmounts(household, day);
        return amounts.child;
    }

    public int housingAmount(int household, int day) throws IndexOutOfBoundsException, IllegalArgumentException {
        requireHousehold(household);
        requireDay(day);
        findAmounts(household, day);
        return amounts.housing;
    }

    public char reason(int household, int day) throws IndexOutOfBoundsException, IllegalArgumentException {
        requireHousehold(household);
        requireDay(day);
        findAmounts(household, day);
        if (residents.adults == 0) {
            return 'n';
        }
        if (amounts.tapered) {
            return amounts.capped ? 'b' : 't';
        }
        return amounts.capped ? 'm' : 'f';
    }

    public int nextChange(int household, int day)
            throws IndexOutOfBoundsException, IllegalArgumentException, NoSuchElementException {
        requireHousehold(household);
        requireDay(day);
        findAmounts(household, day);
        int adult = amounts.adult;
        int child = amounts.child;
        int housing = amounts.housing;
        for (int next = day + 1; next < DAYS; next++) {
            if (startsOn[next] > 0) {
                findAmounts(household, next);
                if (amounts.adult != adult || amounts.child != child || amounts.housing != housing) {
                    return next;
                }
            }
        }
        throw new NoSuchElementException("no amount changes up to the day 359");
    }

    // ---- questions about months

    public int entitlement(int household, int month) throws IndexOutOfBoundsException {
        requireHousehold(household);
        requireMonth(month);
        return sumByStretches(household, month);
    }

    public int entitlementByDays(int household, int month) throws IndexOutOfBoundsException {
        requireHousehold(household);
        requireMonth(month);
        int first = month * DAYS_OF_MONTH;
        int sum = 0;
        for (int day = first; day < first + DAYS_OF_MONTH; day++) {
            findAmounts(household, day);
            sum += amounts.sum();
        }
        return sum;
    }

    public int facts() {
        return factCount;
    }

    public float keptShare() throws ArithmeticException {
        long both = keptInAll + paidInAll;
        if (both == 0) {
            throw new ArithmeticException("nothing was kept back and nothing was paid");
        }
        return (float) keptInAll / (float) both;
    }

    public double meanPayment() throws ArithmeticException {
        if (paymentCount == 0) {
            throw new ArithmeticException("there was no payment");
        }
        return (double) paidInAll / (double) paymentCount;
    }

    // ---- arguments

    private Person personNumbered(int number) {
        if (number < 0 || number >= personCount) {
            throw new IndexOutOfBoundsException("there is no such person");
        }
        return persons[number];
    }

    private void requireHousehold(int number) {
        if (number < 0 || number >= householdCount) {
            throw new IndexOutOfBoundsException("there is no such household");
        }
    }

    private Household householdNumbered(int number) {
        requireHousehold(number);
        return households[number];
    }

    private static int ruleIndex(char letter) {
        for (int i = 0; i < RULES; i++) {
            if (RULE_LETTERS[i] == letter) {
                return i;
            }
        }
        throw new NoSuchElementException("there is no rule with this letter");
    }

    private static void requireDay(int day) {
        if (day < 0 || day >= DAYS) {
            throw new IllegalArgumentException("the day is out of range");
        }
    }

    private static void requireMonth(int month) {
        if (month < 0 || month >= MONTHS) {
            throw new IndexOutOfBoundsException("there is no such month");
        }
    }

    private static void requireNumber(int number) {
        if (number < 0 || number > GREATEST_NUMBER) {
            throw new IllegalArgumentException("the number is out of range");
        }
    }

    private static void requireFact(Timeline facts, int day) {
        if (day < 0 || day >= DAYS || !facts.isToldFor(day)) {
            throw new NoSuchElementException("no such fact is told for this day");
        }
    }

    // ---- facts

    private int tell(Timeline facts, int value, int day) {
        int before = facts.valueOn(day);
        if (!facts.isToldFor(day)) {
            startsOn[day]++;
            factCount++;
        }
        facts.put(value, day);
        return before;
    }

    private int takeBack(Timeline facts, int day) {
        int value = facts.valueOn(day);
        startsOn[day]--;
        factCount--;
        facts.remove(day);
        return value;
    }

    // ---- a day of a household

    private void findResidents(int household, int day) {
        residents.clear();
        for (int i = 0; i < personCount; i++) {
            if (persons[i].home.valueOn(day) == household) {
                residents.add(persons[i], day);
            }
        }
    }

    private void findAmounts(int household, int day) {
        findResidents(household, day);
        amounts.clear();
        if (residents.adults == 0) {
            return;
        }
        amounts.adult = residents.adults * rules[ADULT_RATE].valueOn(day);
        amounts.child = residents.children * rules[CHILD_RATE].valueOn(day);
        if (residents.children > 0) {
            amounts.child += rules[CHILDREN_EXTRA].valueOn(day);
        }
        amounts.housing = Math.min(households[household].rent.valueOn(day), rules[RENT_LIMIT].valueOn(day));
        int over = residents.income - rules[THRESHOLD].valueOn(day);
        if (over > 0) {
            amounts.taper(over * rules[PERCENTAGE].valueOn(day) / 100);
        }
        amounts.limitTo(rules[CAP].valueOn(day));
    }

    // ---- a month of a household

    private int sumByStretches(int household, int month) {
        int stretch = month * DAYS_OF_MONTH;
        int end = stretch + DAYS_OF_MONTH;
        int sum = 0;
        for (int day = stretch + 1; day <= end; day++) {
            if (day == end || startsOn[day] > 0) {
                findAmounts(household, stretch);
                sum += amounts.sum() * (day - stretch);
                stretch = day;
            }
        }
        return sum;
    }

    private int payTo(int household, int month) {
        Household receiver = households[household];
        for (int i = 0; i <= month; i++) {
            entitled[i] = sumByStretches(household, i);
        }
        int debt = receiver.debtBefore(month, entitled);
        int payment;
        if (debt <= 0) {
            payment = entitled[month] - debt;
            receiver.settle(month, entitled);
        } else {
            int kept = Math.min(debt, entitled[month] / KEPT_PART);
            payment = entitled[month] - kept;
            receiver.settleInPart(month, entitled, kept);
            keptInAll += kept;
        }
        receiver.payments[month] = payment;
        return payment;
    }

    /** The facts of one kind about one person, household or rule. */
    private static final class Timeline {
        private final int valueWithoutFact;
        // What holds on each day, so that asking, which is far more frequent than telling, needs no search.
        private final int[] values = new int[DAYS];
        // A bit for each day of each month: with a row of booleans a new office would have twice the elements.
        private final int[] told = new int[MONTHS];

        Timeline(int valueWithoutFact) {
            this.valueWithoutFact = valueWithoutFact;
            Arrays.fill(values, valueWithoutFact);
        }

        int valueOn(int day) {
            return values[day];
        }

        boolean isToldFor(int day) {
            return (told[day / DAYS_OF_MONTH] & bitOf(day)) != 0;
        }

        void put(int value, int day) {
            told[day / DAYS_OF_MONTH] |= bitOf(day);
            holdFrom(value, day);
        }

        void remove(int day) {
            told[day / DAYS_OF_MONTH] &= ~bitOf(day);
            holdFrom(day > 0 ? values[day - 1] : valueWithoutFact, day);
        }

        private static int bitOf(int day) {
            return 1 << day % DAYS_OF_MONTH;
        }

        private void holdFrom(int value, int first) {
            values[first] = value;
            for (int day = first + 1; day < DAYS && !isToldFor(day); day++) {
                values[day] = value;
            }
        }
    }

    private static final class Person {
        private int age;
        private final Timeline home = new Timeline(NO_HOME);
        private final Timeline income = new Timeline(0);
    }

    /** The rent of a household, and what the runs paid in each month (payments) and for each month (paid). */
    private static final class Household {
        private final Timeline rent = new Timeline(0);
        private final int[] payments = new int[MONTHS];
        private final int[] paid = new int[MONTHS];

        /** All excesses minus all gaps of the months before this one. */
        int debtBefore(int month, int[] entitled) {
            int debt = 0;
            for (int i = 0; i < month; i++) {
                debt += paid[i] - entitled[i];
            }
            return debt;
        }

        void settle(int month, int[] entitled) {
            for (int i = 0; i <= month; i++) {
                paid[i] = entitled[i];
            }
        }

        /** Closes all gaps, and takes them and what is kept back from the excesses. */
        void settleInPart(int month, int[] entitled, int kept) {
            int left = kept;
            for (int i = 0; i < month; i++) {
                if (paid[i] < entitled[i]) {
                    left += entitled[i] - paid[i];
                    paid[i] = entitled[i];
                }
            }
            for (int i = 0; i < month; i++) {
                int taken = Math.min(left, paid[i] - entitled[i]);
                paid[i] -= taken;
                left -= taken;
            }
            paid[month] = entitled[month];
        }
    }

    /** Who lives in a household on a day. */
    private static final class Residents {
        private int adults;
        private int children;
        private int income;

        void clear() {
            adults = 0;
            children = 0;
            income = 0;
        }

        void add(Person person, int day) {
            if (day >= person.age) {
                adults++;
            } else {
                children++;
            }
            income += person.income.valueOn(day);
        }
    }

    /** The three amounts of a household on a day, from step to step. */
    private static final class Amounts {
        private int adult;
        private int child;
        private int housing;
        private boolean tapered;
        private boolean capped;

        void clear() {
            adult = 0;
            child = 0;
            housing = 0;
            tapered = false;
            capped = false;
        }

        int sum() {
            return adult + child + housing;
        }

        void taper(int cut) {
            int fromHousing = Math.min(cut, housing);
            int fromAdult = Math.min(cut - fromHousing, adult);
            housing -= fromHousing;
            adult -= fromAdult;
            tapered = fromHousing + fromAdult > 0;
        }

        void limitTo(int cap) {
            int whole = sum();
            if (whole <= 0 || whole <= cap) {
                return;
            }
            capped = true;
            int adultRest = adult * cap % whole;
            int childRest = child * cap % whole;
            int housingRest = housing * cap % whole;
            adult = adult * cap / whole;
            child = child * cap / whole;
            housing = housing * cap / whole;
            for (int missing = cap - sum(); missing > 0; missing--) {
                // A rest of -1 is less than all others: to each amount 1 is added at most once.
                if (adultRest >= childRest && adultRest >= housingRest) {
                    adult++;
                    adultRest = -1;
                } else if (childRest >= housingRest) {
                    child++;
                    childRest = -1;
                } else {
                    housing++;
                    housingRest = -1;
                }
            }
        }
    }
}
