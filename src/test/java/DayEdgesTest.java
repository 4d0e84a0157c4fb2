/**
 * The boundary cases of days and months (Terms, promises 21 to 30): above each test stands the sentence of the document
 * that it holds to. What is refused stands in RefusalsTest.
 */
public final class DayEdgesTest {
    private static final int LAST_DAY = 359;

    public static void main(String[] args) {
        dayOfAge();
        livesOnTheDay();
        fullHousehold();
        incomeOfAHousehold();
        noAdult();
        adultAmountOfTheFirstStep();
        childAmountOfTheFirstStep();
        housingAmountOfTheFirstStep();
        greatestAmounts();
        incomeAtTheThreshold();
        leastAndGreatestThreshold();
        percentageOfTheTaper();
        taperRoundedDown();
        wholeOfTheHousingAmount();
        wholeOfTheAdultAmount();
        nothingToTake();
        sumAtTheCap();
        capOfNothing();
        capAfterTheTaper();
        oneAmountUnderTheCap();
        greatestRemainders();
        factsOfTheDay();
        reasons();
        eachQuestionAlone();
        firstDayAfter();
        lastDayOfAChange();
        noChange();
        changeByAge();
        changeThatIsNone();
        changeThereAndBack();
        changeOfOthers();
        changeTakenBack();
        monthsOfThirtyDays();
        agesInAMonth();
        everyDayOfAMonth();
        leastAndGreatestEntitlement();
        asTheyAreToldNow();
        Check.end();
    }

    /** Household 0 with so many adults and children, all days. */
    private static BenefitOffice office(int adults, int children) {
        BenefitOffice office = new BenefitOffice();
        office.addHousehold();
        for (int i = 0; i < adults + children; i++) {
            office.addPerson(i < adults ? 0 : 999);
            office.move(i, 0, 0);
        }
        return office;
    }

    /** One adult and one child with these amounts of the first step, before any taper, under a cap. */
    private static BenefitOffice amounts(int adult, int child, int housing, int cap) {
        BenefitOffice office = office(1, 1);
        office.setRule('a', adult, 0);
        office.setRule('c', child, 0);
        office.setRule('f', 0, 0);
        office.setRule('r', housing, 0);
        office.setRent(0, 999, 0);
        office.setRule('m', cap, 0);
        return office;
    }

    private static void due(String what, BenefitOffice office, int day, String due) {
        Check.same(what, office.adultAmount(0, day) + " " + office.childAmount(0, day) + " "
                + office.housingAmount(0, day) + " " + office.reason(0, day), due);
    }

    private static void next(String what, BenefitOffice office, int day, int due) {
        Check.same(what, Check.answer(() -> office.nextChange(0, day)), due < 0 ? "NoSuchElementException" : "" + due);
    }

    private static void entitled(String what, BenefitOffice office, int month, int due) {
        Check.same(what + ", stretch by stretch", office.entitlement(0, month), due);
        Check.same(what + ", day by day", office.entitlementByDays(0, month), due);
    }

    // ---- who lives in a household

    /** "the person is a child on all days before it, and an adult on this day and later." */
    private static void dayOfAge() {
        for (int age : new int[] {0, 1, 29, 30, 358, 359, 360, 999}) {
            BenefitOffice office = new BenefitOffice();
            office.addHousehold();
            office.addPerson(age);
            office.move(0, 0, 0);
            for (int day : new int[] {0, age - 1, age, age + 1, 358, LAST_DAY}) {
                if (day >= 0 && day <= LAST_DAY) {
                    Check.same("adults with the age " + age + " on " + day, office.adults(0, day), day < age ? 0 : 1);
                    Check.same("children with the age " + age + " on " + day, office.children(0, day), day < age ? 1 : 0);
                }
            }
        }
    }

    /** "A person lives in the household that is the home of the person on this day." */
    private static void livesOnTheDay() {
        BenefitOffice office = office(1, 1);
        office.addHousehold();
        office.move(0, 1, 1);
        office.move(0, -1, 2);
        office.move(0, 1, LAST_DAY);
        int[][] due = {{0, 1, 0}, {1, 0, 1}, {2, 0, 0}, {358, 0, 0}, {LAST_DAY, 0, 1}};
        for (int[] row : due) {
            Check.same("adults of household 0 on " + row[0], office.adults(0, row[0]), row[1]);
            Check.same("adults of household 1 on " + row[0], office.adults(1, row[0]), row[2]);
            Check.same("children of household 0 on " + row[0], office.children(0, row[0]), 1);
            Check.same("children of household 1 on " + row[0], office.children(1, row[0]), 0);
        }
    }

    /** Nobody, and all 8 persons, adults, children and both, live in one household. */
    private static void fullHousehold() {
        for (int adults = 0; adults <= 8; adults++) {
            BenefitOffice full = office(adults, 8 - adults);
            Check.same("adults of a full household", full.adults(0, 0), adults);
            Check.same("children of a full household", full.children(0, LAST_DAY), 8 - adults);
            BenefitOffice half = office(adults, 0);
            Check.same("children of a household without", half.children(0, 0), 0);
            Check.same("adults of a household without children", half.adults(0, LAST_DAY), adults);
        }
    }

    /** "The income of a household is the sum of the incomes of all persons who live in it, children included." */
    private static void incomeOfAHousehold() {
        BenefitOffice nobody = office(0, 0);
        Check.same("income of nobody", nobody.incomeOf(0, 0), 0);
        BenefitOffice office = office(4, 4);
        Check.same("income where none is told", office.incomeOf(0, 0), 0);
        for (int i = 0; i < 8; i++) {
            office.setIncome(i, 999, LAST_DAY);
        }
        Check.same("income on the day before", office.incomeOf(0, 358), 0);
        Check.same("greatest income", office.incomeOf(0, LAST_DAY), 7992);
        office.setIncome(7, 998, LAST_DAY);
        Check.same("income with that of the last child", office.incomeOf(0, LAST_DAY), 7991);
        office.addHousehold();
        office.move(7, 1, LAST_DAY);
        office.move(0, -1, LAST_DAY);
        Check.same("income without those who left", office.incomeOf(0, LAST_DAY), 5994);
        Check.same("income of a child alone", office.incomeOf(1, LAST_DAY), 998);
    }

    // ---- the first step

    /** "If no adult lives in it, all three are 0." */
    private static void noAdult() {
        BenefitOffice nobody = office(0, 0);
        nobody.setRent(0, 20, 0);
        due("nobody, with a rent", nobody, 0, "0 0 0 n");
        nobody.setRule('m', 0, 0);
        due("nobody, with a cap of 0", nobody, LAST_DAY, "0 0 0 n");
        BenefitOffice office = office(0, 8);
        office.setRent(0, 20, 0);
        office.setIncome(0, 999, 1);
        office.setRule('m', 1, 2);
        due("eight children alone", office, 0, "0 0 0 n");
        due("eight children alone, with an income", office, 1, "0 0 0 n");
        due("eight children alone, with a low cap", office, 2, "0 0 0 n");
        entitled("eight children alone", office, 0, 0);
        BenefitOffice grown = new BenefitOffice();
        grown.addHousehold();
        grown.addPerson(LAST_DAY);
        grown.move(0, 0, 0);
        grown.setRent(0, 20, 0);
        due("before the day of age", grown, 358, "0 0 0 n");
        due("on the day of age", grown, LAST_DAY, "10 0 20 f");
    }

    /** "the adult amount: the number of adults who live in it times 'a'". */
    private static void adultAmountOfTheFirstStep() {
        for (int adults : new int[] {1, 2, 8}) {
            BenefitOffice office = office(adults, 0);
            office.setRule('m', 999, 0);
            due(adults + " adults at 10", office, 0, 10 * adults + " 0 0 f");
            office.setRule('a', 99, 0);
            due(adults + " adults at 99", office, 0, 99 * adults + " 0 0 f");
            office.setRule('a', 1, 0);
            due(adults + " adults at 1", office, 0, adults + " 0 0 f");
            office.setRule('a', 0, 0);
            due(adults + " adults at 0", office, 0, "0 0 0 f");
        }
    }

    /** "the number of children who live in it times 'c', plus 'f' if there is at least one child". */
    private static void childAmountOfTheFirstStep() {
        for (int children : new int[] {0, 1, 2, 7}) {
            BenefitOffice office = office(1, children);
            office.setRule('m', 999, 0);
            int extra = children > 0 ? 1 : 0;
            due(children + " children", office, 0, "10 " + (5 * children + 3 * extra) + " 0 f");
            office.setRule('f', 99, 0);
            due(children + " children, greatest extra", office, 0, "10 " + (5 * children + 99 * extra) + " 0 f");
            office.setRule('c', 0, 0);
            due(children + " children, extra alone", office, 0, "10 " + 99 * extra + " 0 f");
            office.setRule('f', 0, 0);
            due(children + " children, nothing for them", office, 0, "10 0 0 f");
            office.setRule('c', 99, 0);
            due(children + " children, greatest rate, no extra", office, 0, "10 " + 99 * children + " 0 f");
        }
    }

    /** "the housing amount: its rent, or 'r' if that is less." */
    private static void housingAmountOfTheFirstStep() {
        BenefitOffice office = office(1, 0);
        office.setRule('m', 999, 0);
        due("no rent told", office, 0, "10 0 0 f");
        int[] rents = {0, 1, 19, 20, 21, 999};
        int[] housing = {0, 1, 19, 20, 20, 20};
        for (int i = 0; i < rents.length; i++) {
            office.setRent(0, rents[i], 0);
            due("rent of " + rents[i] + " to 20", office, 0, "10 0 " + housing[i] + " f");
        }
        office.setRule('r', 99, 0);
        due("greatest rent to the greatest limit", office, 0, "10 0 99 f");
        office.setRent(0, 98, 0);
        due("rent below the greatest limit", office, 0, "10 0 98 f");
        office.setRule('r', 0, 0);
        due("rent to a limit of 0", office, 0, "10 0 0 f");
        office.setRent(0, 0, 0);
        due("no rent to a limit of 0", office, 0, "10 0 0 f");
    }

    /** The greatest amounts that there can be: 8 persons, and all rules at their greatest values. */
    private static void greatestAmounts() {
        for (int adults : new int[] {1, 7, 8}) {
            BenefitOffice office = office(adults, 8 - adults);
            for (char rule : new char[] {'a', 'c', 'f', 'r'}) {
                office.setRule(rule, 99, 0);
            }
            office.setRent(0, 999, 0);
            office.setRule('m', 999, 0);
            int child = adults == 8 ? 0 : 99 * (8 - adults) + 99;
            due("greatest amounts of " + adults, office, 0, 99 * adults + " " + child + " 99 f");
            entitled("greatest amounts of " + adults, office, 11, 30 * (99 * adults + child + 99));
        }
    }

    // ---- the taper

    /** One adult at 10 with a rent of 20, without a threshold, tapered by the whole income. */
    private static BenefitOffice tapered(int income) {
        BenefitOffice office = office(1, 0);
        office.setRent(0, 20, 0);
        office.setRule('t', 0, 0);
        office.setRule('p', 100, 0);
        office.setIncome(0, income, 0);
        return office;
    }

    /** "if the income of the household is greater than 't'". */
    private static void incomeAtTheThreshold() {
        BenefitOffice office = tapered(0);
        office.setRule('t', 15, 0);
        int[] incomes = {0, 14, 15, 16, 17};
        int[] housing = {20, 20, 20, 19, 18};
        for (int i = 0; i < incomes.length; i++) {
            office.setIncome(0, incomes[i], 0);
            due("an income of " + incomes[i] + " to 15", office, 0, "10 0 " + housing[i] + (i < 3 ? " f" : " t"));
        }
    }

    /** "'t' the threshold, 999": and the least value is 0. */
    private static void leastAndGreatestThreshold() {
        due("no income, threshold 0", tapered(0), 0, "10 0 20 f");
        due("an income of 1, threshold 0", tapered(1), 0, "10 0 19 t");
        BenefitOffice office = office(2, 0);
        office.setRent(0, 20, 0);
        office.setRule('t', 999, 0);
        office.setRule('p', 100, 0);
        office.setIncome(0, 999, 0);
        due("the income at the greatest threshold", office, 0, "20 0 20 f");
        office.setIncome(1, 1, 1);
        due("the income above the greatest threshold", office, 1, "20 0 19 t");
        office.setIncome(1, 999, 2);
        due("twice the greatest income", office, 2, "0 0 0 t");
    }

    /** "'p' the percentage, 100": and the least value is 0. */
    private static void percentageOfTheTaper() {
        BenefitOffice office = tapered(10);
        due("100 of 100", office, 0, "10 0 10 t");
        office.setRule('p', 99, 0);
        due("99 of 100", office, 0, "10 0 11 t");
        office.setRule('p', 10, 0);
        due("10 of 100", office, 0, "10 0 19 t");
        office.setRule('p', 9, 0);
        due("9 of 100", office, 0, "10 0 20 f");
        office.setRule('p', 0, 0);
        due("0 of 100", office, 0, "10 0 20 f");
        office.setIncome(0, 999, 0);
        due("0 of 100 of the greatest income", office, 0, "10 0 20 f");
        office.setRule('p', 1, 0);
        due("1 of 100 of the greatest income", office, 0, "10 0 11 t");
    }

    /** "the income minus 't', times 'p', divided by 100, rounded down". */
    private static void taperRoundedDown() {
        BenefitOffice office = tapered(0);
        office.setRule('p', 1, 0);
        int[] incomes = {1, 99, 100, 101, 199, 200};
        int[] housing = {20, 20, 19, 19, 19, 18};
        for (int i = 0; i < incomes.length; i++) {
            office.setIncome(0, incomes[i], 0);
            due("1 of 100 of " + incomes[i], office, 0, "10 0 " + housing[i] + (i < 2 ? " f" : " t"));
        }
        BenefitOffice minus = tapered(16);
        minus.setRule('t', 15, 0);
        minus.setRule('p', 99, 0);
        due("99 of 100 of 16 minus 15, not of each", minus, 0, "10 0 20 f");
        minus.setIncome(0, 17, 0);
        due("99 of 100 of 17 minus 15", minus, 0, "10 0 19 t");
    }

    /** "is taken from the housing amount, but at most the whole of it". */
    private static void wholeOfTheHousingAmount() {
        due("less than the whole", tapered(19), 0, "10 0 1 t");
        due("the whole", tapered(20), 0, "10 0 0 t");
        due("more than the whole", tapered(21), 0, "9 0 0 t");
    }

    /** "what could not be taken from that is taken from the adult amount, but at most the whole of it." */
    private static void wholeOfTheAdultAmount() {
        due("less than the whole of both", tapered(29), 0, "1 0 0 t");
        due("the whole of both", tapered(30), 0, "0 0 0 t");
        due("more than the whole of both", tapered(31), 0, "0 0 0 t");
        due("the greatest income of one", tapered(999), 0, "0 0 0 t");
        BenefitOffice child = tapered(999);
        child.addPerson(999);
        child.move(1, 0, 0);
        due("nothing is taken from the child amount", child, 0, "0 8 0 t");
        child.setIncome(1, 999, 0);
        due("nothing is taken from it for the child's income", child, 0, "0 8 0 t");
        BenefitOffice noRent = tapered(3);
        noRent.setRent(0, 0, 0);
        due("all is taken from the adult amount", noRent, 0, "7 0 0 t");
        BenefitOffice noRate = tapered(3);
        noRate.setRule('a', 0, 0);
        due("all is taken from the housing amount", noRate, 0, "0 0 17 t");
    }

    /** reason: "'t' if the taper took something": it takes nothing from amounts of 0. */
    private static void nothingToTake() {
        BenefitOffice office = tapered(999);
        office.setRule('a', 0, 0);
        office.setRent(0, 0, 0);
        due("all amounts are 0", office, 0, "0 0 0 f");
        office.addPerson(999);
        office.move(1, 0, 0);
        due("there is a child amount alone", office, 0, "0 8 0 f");
        office.setRule('m', 8, 0);
        due("there is a child amount alone, at the cap", office, 0, "0 8 0 f");
        office.setRule('m', 7, 0);
        due("there is a child amount alone, above the cap", office, 0, "0 7 0 m");
    }

    // ---- the cap

    /** "if the sum of the three amounts is greater than 'm'". */
    private static void sumAtTheCap() {
        due("a sum below the cap", amounts(10, 5, 20, 36), 0, "10 5 20 f");
        due("a sum at the cap", amounts(10, 5, 20, 35), 0, "10 5 20 f");
        due("a sum above the cap", amounts(10, 5, 20, 34), 0, "10 5 19 m");
        BenefitOffice office = office(1, 7);
        for (char rule : new char[] {'a', 'c', 'f', 'r'}) {
            office.setRule(rule, 99, 0);
        }
        office.setRent(0, 99, 0);
        office.setRule('m', 990, 0);
        due("the greatest sum at the cap", office, 0, "99 792 99 f");
        office.setRule('m', 989, 0);
        due("the greatest sum above the cap", office, 0, "99 791 99 m");
        office.setRule('m', 1, 0);
        due("the greatest sum above a cap of 1", office, 0, "0 1 0 m");
        office.setRule('m', 0, 0);
        due("the greatest sum above a cap of 0", office, 0, "0 0 0 m");
    }

    /** A cap of 0, and a sum of 0, which is not greater. */
    private static void capOfNothing() {
        due("a sum of 0, a cap of 0", amounts(0, 0, 0, 0), 0, "0 0 0 f");
        due("a sum of 0, a cap of 1", amounts(0, 0, 0, 1), 0, "0 0 0 f");
        due("a sum of 1, a cap of 1", amounts(1, 0, 0, 1), 0, "1 0 0 f");
        due("an adult amount of 1, a cap of 0", amounts(1, 0, 0, 0), 0, "0 0 0 m");
        due("a child amount of 1, a cap of 0", amounts(0, 1, 0, 0), 0, "0 0 0 m");
        due("a housing amount of 1, a cap of 0", amounts(0, 0, 1, 0), 0, "0 0 0 m");
    }

    /** The cap is the third step: it looks at what the taper left. */
    private static void capAfterTheTaper() {
        BenefitOffice office = tapered(10);
        office.setRule('m', 21, 0);
        due("what is left is below the cap", office, 0, "10 0 10 t");
        office.setRule('m', 20, 0);
        due("what is left is at the cap", office, 0, "10 0 10 t");
        office.setRule('m', 19, 0);
        due("what is left is above the cap", office, 0, "10 0 9 b");
        office.setRule('m', 0, 0);
        due("what is left is above a cap of 0", office, 0, "0 0 0 b");
        office.setIncome(0, 30, 0);
        due("nothing is left for a cap of 0", office, 0, "0 0 0 t");
        office.setIncome(0, 29, 0);
        due("1 is left for a cap of 0", office, 0, "0 0 0 b");
    }

    /** "each amount becomes this amount times 'm', divided by the sum, rounded down": exact where there is but one. */
    private static void oneAmountUnderTheCap() {
        due("an adult amount alone", amounts(99, 0, 0, 98), 0, "98 0 0 m");
        due("a child amount alone", amounts(0, 99, 0, 1), 0, "0 1 0 m");
        due("a housing amount alone", amounts(0, 0, 99, 50), 0, "0 0 50 m");
        due("divisions without remainders", amounts(20, 40, 60, 60), 0, "10 20 30 m");
        due("two amounts, each halved", amounts(99, 0, 99, 99), 0, "50 0 49 m");
        due("a remainder of an amount of 0 is the least", amounts(0, 1, 1, 1), 0, "0 1 0 m");
    }

    /**
     * "1 is added to one of the amounts, each time to the one whose division had the greatest remainder among those to
     * which nothing was added, of several the adult amount before the child amount and the child amount before the
     * housing amount": each order that the three remainders can have, where 0, 1 and 2 are to be added.
     */
    private static void greatestRemainders() {
        // the amounts of the first step, the cap, and what is due
        int[][] none = {{20, 40, 60, 30, 5, 10, 15}};
        int[][] one = {{1, 2, 3, 1, 0, 0, 1}, {2, 1, 1, 2, 1, 1, 0}, {1, 3, 2, 1, 0, 1, 0}, {1, 2, 1, 1, 0, 1, 0},
                {1, 2, 3, 2, 0, 1, 1}, {1, 1, 2, 1, 0, 0, 1}, {1, 1, 1, 1, 1, 0, 0}, {1, 1, 2, 2, 1, 0, 1},
                {1, 3, 2, 2, 0, 1, 1}, {1, 2, 1, 2, 1, 1, 0}, {1, 3, 2, 4, 1, 2, 1}, {2, 1, 1, 1, 1, 0, 0},
                {1, 2, 3, 4, 1, 1, 2}};
        int[][] two = {{3, 2, 1, 5, 2, 2, 1}, {2, 1, 1, 3, 1, 1, 1}, {3, 1, 2, 5, 2, 1, 2}, {1, 3, 1, 3, 1, 2, 0},
                {2, 1, 3, 5, 2, 1, 2}, {1, 1, 3, 3, 1, 0, 2}, {1, 1, 1, 2, 1, 1, 0}, {1, 1, 2, 3, 1, 1, 1},
                {2, 3, 1, 5, 2, 2, 1}, {1, 2, 1, 3, 1, 1, 1}, {1, 3, 2, 5, 1, 2, 2}, {1, 2, 2, 4, 1, 2, 1},
                {1, 2, 3, 5, 1, 2, 2}};
        for (int[][] rows : new int[][][] {none, one, two}) {
            for (int[] row : rows) {
                due(row[0] + ", " + row[1] + " and " + row[2] + " under " + row[3],
                        amounts(row[0], row[1], row[2], row[3]), 0, row[4] + " " + row[5] + " " + row[6] + " m");
            }
        }
    }

    /** "which are found from the facts that hold on this day": facts of the day before and of the next do not count. */
    private static void factsOfTheDay() {
        BenefitOffice office = office(1, 1);
        office.setRent(0, 30, 0);
        char[] rules = {'a', 'c', 'f', 'r', 'm', 't', 'p'};
        int[] values = {11, 6, 4, 19, 39, 9, 100};
        String[] due = {"11 8 20 f", "11 9 20 f", "11 10 20 f", "11 10 19 f", "11 10 18 m", "11 10 18 m", "11 10 18 m"};
        for (int i = 0; i < rules.length; i++) {
            office.setRule(rules[i], values[i], 10 * i + 10);
        }
        due("before all facts", office, 9, "10 8 20 f");
        for (int i = 0; i < rules.length; i++) {
            due("on the day of rule " + rules[i], office, 10 * i + 10, due[i]);
            due("on the last day of rule " + rules[i], office, 10 * i + 19, due[i]);
        }
        office.setIncome(0, 10, 100);
        due("before the income", office, 99, "11 10 18 m");
        due("on the day of the income", office, 100, "11 10 18 t");
        office.setRent(0, 18, LAST_DAY);
        due("before the rent", office, 358, "11 10 18 t");
        due("on the day of the rent", office, LAST_DAY, "11 10 17 t");
    }

    /** "Returns 'n' if no adult lives in it; otherwise 't' ..., 'm' ..., 'b' if both did, 'f' if neither did." */
    private static void reasons() {
        BenefitOffice office = tapered(0);
        office.move(0, -1, LAST_DAY);
        office.setIncome(0, 1, 1);
        office.setRule('m', 29, 2);
        office.setRule('m', 28, 3);
        office.setRule('t', 1, 4);
        office.setIncome(0, 0, 5);
        Check.same("neither", office.reason(0, 0), 'f');
        Check.same("the taper took 1", office.reason(0, 1), 't');
        Check.same("the taper took 1, down to the cap", office.reason(0, 2), 't');
        Check.same("both", office.reason(0, 3), 'b');
        Check.same("the income is at the threshold", office.reason(0, 4), 'm');
        Check.same("no income", office.reason(0, 5), 'm');
        Check.same("the last day with an adult", office.reason(0, 358), 'm');
        Check.same("no adult", office.reason(0, LAST_DAY), 'n');
    }

    /** A question answers for its own household and day, whatever was asked before it. */
    private static void eachQuestionAlone() {
        BenefitOffice office = office(1, 2);
        office.addHousehold();
        office.setRent(0, 7, 0);
        office.setIncome(1, 16, 0);
        for (int i = 0; i < 2; i++) {
            int other = 1 - i;
            Check.same("adults alone", ask(office, other).adults(i, 0), i == 0 ? 1 : 0);
            Check.same("children alone", ask(office, other).children(i, 0), i == 0 ? 2 : 0);
            Check.same("incomeOf alone", ask(office, other).incomeOf(i, 0), i == 0 ? 16 : 0);
            Check.same("adultAmount alone", ask(office, other).adultAmount(i, 0), i == 0 ? 10 : 0);
            Check.same("childAmount alone", ask(office, other).childAmount(i, 0), i == 0 ? 13 : 0);
            Check.same("housingAmount alone", ask(office, other).housingAmount(i, 0), i == 0 ? 7 : 0);
            Check.same("reason alone", ask(office, other).reason(i, 0), i == 0 ? 'f' : 'n');
            Check.same("entitlement alone", ask(office, other).entitlement(i, 0), i == 0 ? 900 : 0);
            Check.same("entitlementByDays alone", ask(office, other).entitlementByDays(i, 0), i == 0 ? 900 : 0);
            Check.same("balance alone", ask(office, other).balance(i), 0);
            Check.same("payment of a run after it", ask(office, other).pay(), 900);
        }
    }

    private static BenefitOffice ask(BenefitOffice office, int household) {
        office.reason(household, LAST_DAY);
        office.entitlement(household, 0);
        return office;
    }

    // ---- the next change

    /** "the first day after a day on which one of the three amounts ... is not the same as on the day before it." */
    private static void firstDayAfter() {
        BenefitOffice office = office(1, 1);
        office.setRule('a', 11, 1);
        office.setRule('c', 6, 2);
        office.setRent(0, 1, 100);
        next("on the first day", office, 0, 1);
        next("the day itself does not count", office, 1, 2);
        next("the day after the last but one", office, 2, 100);
        next("the day before the change", office, 99, 100);
        next("the day of the last change", office, 100, -1);
    }

    /** "Throws NoSuchElementException if there is none up to the day 359": the day 359 counts. */
    private static void lastDayOfAChange() {
        BenefitOffice office = office(1, 0);
        next("nothing on the last day", office, 358, -1);
        office.setRule('a', 11, LAST_DAY);
        next("seen from the first day", office, 0, LAST_DAY);
        next("seen from the day before", office, 358, LAST_DAY);
        next("seen from the day itself", office, LAST_DAY, -1);
    }

    private static void noChange() {
        BenefitOffice office = office(0, 0);
        for (int day : new int[] {0, 1, 180, 358, LAST_DAY}) {
            next("nobody and nothing", office, day, -1);
        }
        BenefitOffice full = office(4, 4);
        for (int day : new int[] {0, 1, 180, 358, LAST_DAY}) {
            next("eight persons and no facts but of the first day", full, day, -1);
        }
        BenefitOffice first = office(1, 0);
        first.setRule('a', 20, 0);
        next("a change with the first day is none", first, 0, -1);
    }

    /** "The person is a child on all days before it": amounts change by it without a fact. */
    private static void changeByAge() {
        for (int age : new int[] {1, 29, 30, LAST_DAY}) {
            BenefitOffice office = new BenefitOffice();
            office.addHousehold();
            office.addPerson(age);
            office.move(0, 0, 0);
            next("the day of age is " + age, office, 0, age);
            next("seen from the day before", office, age - 1, age);
            next("seen from the day of age", office, age, -1);
        }
        BenefitOffice never = office(1, 1);
        never.addPerson(360);
        never.move(2, 0, 0);
        next("a day of age that never comes", never, 0, -1);
    }

    /** Facts that change none of the three amounts are no change. */
    private static void changeThatIsNone() {
        BenefitOffice office = office(0, 1);
        office.setRule('a', 0, 0);
        office.addPerson(0);
        office.move(1, 0, 50);
        office.setRule('c', 0, 0);
        office.setRule('f', 0, 0);
        due("no adult, all 0", office, 49, "0 0 0 n");
        due("an adult, all 0", office, 50, "0 0 0 f");
        next("another reason is no change", office, 0, -1);
        BenefitOffice same = office(1, 0);
        same.setRent(0, 20, 0);
        same.setRent(0, 21, 10);
        same.setRule('a', 10, 20);
        same.setIncome(0, 15, 30);
        same.setRule('m', 30, 40);
        same.move(0, 0, 50);
        next("facts without a change", same, 0, -1);
        same.setRule('m', 29, 60);
        next("the first that changes something", same, 0, 60);
        same.setIncome(0, 17, 61);
        due("the cap took 1", same, 60, "10 0 19 m");
        due("the taper took 1", same, 61, "10 0 19 t");
        next("the same amounts for another reason", same, 60, -1);
    }

    private static void changeThereAndBack() {
        BenefitOffice office = office(1, 0);
        office.setRule('a', 12, 20);
        office.setRule('a', 10, 21);
        office.setRule('a', 12, LAST_DAY);
        next("a change of one day", office, 0, 20);
        next("the change back", office, 20, 21);
        next("there again", office, 21, LAST_DAY);
    }

    private static void changeOfOthers() {
        BenefitOffice office = office(1, 0);
        office.addHousehold();
        office.addPerson(40);
        office.move(1, 1, 0);
        office.setRent(1, 10, 20);
        office.setIncome(1, 25, 60);
        next("only another household changes", office, 0, -1);
        Check.same("the other household's first change", office.nextChange(1, 0), 40);
        office.move(1, 0, 80);
        next("the other moves in", office, 0, 80);
        Check.same("the other household's last change", office.nextChange(1, 60), 80);
        Check.same("none after that", Check.answer(() -> office.nextChange(1, 80)), "NoSuchElementException");
    }

    private static void changeTakenBack() {
        BenefitOffice office = office(1, 0);
        office.setRule('a', 12, 20);
        office.setIncome(0, 999, 30);
        office.move(0, -1, 40);
        next("all are told", office, 0, 20);
        office.takeBackRule('a', 20);
        next("the rule is taken back", office, 0, 30);
        office.takeBackIncome(0, 30);
        next("the income is taken back", office, 0, 40);
        office.takeBackMove(0, 40);
        next("the move is taken back", office, 0, -1);
        office.setRule('a', 12, 20);
        next("the rule is told again", office, 0, 20);
    }

    // ---- months

    /** "The month m, from 0 to 11, has the 30 days from the day 30 m on." */
    private static void monthsOfThirtyDays() {
        for (int month = 0; month < 12; month++) {
            BenefitOffice first = office(1, 0);
            first.setRule('a', 11, 30 * month);
            BenefitOffice last = office(1, 0);
            last.setRule('a', 11, 30 * month + 29);
            for (int other = 0; other < 12; other++) {
                entitled("from the first day of " + month + ", for " + other, first, other, other < month ? 300 : 330);
                int due = other < month ? 300 : other > month ? 330 : 301;
                entitled("from the last day of " + month + ", for " + other, last, other, due);
            }
        }
    }

    /** "... on which the same facts hold and the same persons are children". */
    private static void agesInAMonth() {
        for (int age : new int[] {0, 1, 29, 30, 31, 59, 60, 330, 331, 359, 360}) {
            BenefitOffice office = office(1, 0);
            office.addPerson(age);
            office.move(1, 0, 0);
            for (int month = 0; month < 12; month++) {
                int childDays = Math.max(0, Math.min(30, age - 30 * month));
                entitled("the day of age " + age + ", for " + month, office, month, 18 * childDays + 20 * (30 - childDays));
            }
        }
        BenefitOffice two = office(1, 0);
        for (int i = 1; i <= 2; i++) {
            two.addPerson(40);
            two.move(i, 0, 0);
        }
        entitled("two with the same day of age", two, 1, 10 * 23 + 20 * 30);
    }

    /** A fact for each day of the month: each stretch is one day. */
    private static void everyDayOfAMonth() {
        BenefitOffice office = office(1, 0);
        for (int day = 329; day <= LAST_DAY; day++) {
            office.setRule('a', day - 320, day);
        }
        entitled("each day another rate", office, 11, 30 * 24 + 15);
        entitled("the month before", office, 10, 29 * 10 + 9);
        for (int day = 330; day <= LAST_DAY; day++) {
            office.move(0, day % 2 - 1, day);
        }
        entitled("there on each second day", office, 11, 15 * 25);
    }

    /** Nothing there yet, and the most that there can be. */
    private static void leastAndGreatestEntitlement() {
        BenefitOffice nobody = office(0, 0);
        BenefitOffice office = office(1, 7);
        for (char rule : new char[] {'a', 'c', 'f', 'r'}) {
            office.setRule(rule, 99, 0);
        }
        office.setRent(0, 999, 0);
        office.setRule('m', 999, 0);
        for (int month = 0; month < 12; month++) {
            entitled("nobody", nobody, month, 0);
            entitled("the most", office, month, 29700);
        }
    }

    /** "by the facts as they are told now": for months before and after the runs. */
    private static void asTheyAreToldNow() {
        BenefitOffice office = office(1, 0);
        entitled("before the run", office, 0, 300);
        office.pay();
        entitled("after the run", office, 0, 300);
        office.setRule('a', 0, 0);
        entitled("told after the run", office, 0, 0);
        entitled("told for a month without a run", office, 11, 0);
        office.pay();
        entitled("after the next run", office, 0, 0);
        office.setRule('a', 1, 29);
        entitled("told after two runs", office, 0, 1);
    }
}
