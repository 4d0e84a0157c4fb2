import java.util.ArrayList;
import java.util.Arrays;
import java.util.List;
import java.util.NoSuchElementException;
import java.util.TreeSet;
import java.util.function.Consumer;

/**
 * "A method that throws an exception changes nothing. If several exceptions apply, the one that is documented first is
 * thrown." Each call with arguments, with each of them least, greatest, just outside and far outside in all pairings,
 * on an office with nothing in it, on one with something and on one that is full.
 */
public final class RefusalsTest {
    private static final Class<?> INDEX = IndexOutOfBoundsException.class;
    private static final Class<?> ARGUMENT = IllegalArgumentException.class;
    private static final Class<?> ELEMENT = NoSuchElementException.class;
    private static final Class<?> STATE = IllegalStateException.class;
    private static final int[] DAY = {0, 359};
    private static final int[] MONTH = {0, 11};
    private static final int[] NUMBER = {0, 999};
    private static final String RULES = "acfrtpm";
    private static final int[] GREATEST = {99, 99, 99, 99, 999, 100, 999};

    /** An office, made by the calls of before, with so many persons, households and runs. */
    private record Stage(String name, int persons, int households, int runs, Consumer<BenefitOffice> before,
            List<String> states) {
        Stage(String name, int persons, int households, int runs, Consumer<BenefitOffice> before) {
            this(name, persons, households, runs, before, Check.states(before));
        }
    }

    /** A call with arguments of a kind. */
    private interface Call {
        void on(BenefitOffice office, int[] arguments);
    }

    public static void main(String[] args) {
        List<Stage> stages = List.of(new Stage("nothing", 0, 0, 0, RefusalsTest::nothing),
                new Stage("something", 2, 2, 3, RefusalsTest::something),
                new Stage("a full office", 8, 4, 12, RefusalsTest::full));
        for (Stage stage : stages) {
            adding(stage);
            telling(stage);
            takingBack(stage);
            rules(stage);
            payments(stage);
            days(stage);
            months(stage);
        }
        Check.end();
    }

    private static void nothing(BenefitOffice office) {
    }

    /** Two persons and two households, facts of each kind on some days, three runs, and a debt of household 0. */
    private static void something(BenefitOffice office) {
        office.addPerson(0);
        office.addPerson(45);
        office.addHousehold();
        office.addHousehold();
        office.move(0, 0, 0);
        office.move(0, 1, 200);
        office.move(1, 0, 0);
        office.move(1, -1, 359);
        office.setIncome(0, 9, 0);
        office.setIncome(1, 40, 30);
        office.setIncome(1, 8, 359);
        office.setRent(0, 18, 0);
        office.setRent(1, 7, 359);
        office.pay();
        office.pay();
        office.setRule('a', 4, 0);
        office.setRule('m', 19, 44);
        office.setRule('p', 70, 359);
        office.pay();
    }

    /** Eight persons, four households and twelve runs, facts on the first and the last day of each kind. */
    private static void full(BenefitOffice office) {
        for (int i = 0; i < 4; i++) {
            office.addHousehold();
            office.setRent(i, 10 + i, 0);
            office.setRent(i, 20 + i, 359);
        }
        for (int i = 0; i < 8; i++) {
            office.addPerson(i < 4 ? 0 : 50 * i);
            office.move(i, i % 4, 0);
            office.move(i, (i + 1) % 4, 359);
            office.setIncome(i, 11 + i, 0);
            office.setIncome(i, 21 + i, 359);
        }
        for (int i = 0; i < RULES.length(); i++) {
            office.setRule(RULES.charAt(i), GREATEST[i] / 2, 0);
            office.setRule(RULES.charAt(i), GREATEST[i] / 3, 359);
        }
        for (int i = 0; i < 12; i++) {
            if (i == 6) {
                office.setRule('m', 60, 0);
            }
            office.pay();
        }
    }

    // ---- the calls

    private static void adding(Stage stage) {
        for (int[] c : cases(NUMBER)) {
            due("addPerson", stage, c, (x, a) -> x.addPerson(a[0]),
                    unless(in(c[0], NUMBER), ARGUMENT), unless(stage.persons < 8, STATE));
        }
        due("addHousehold", stage, new int[0], (x, a) -> x.addHousehold(), unless(stage.households < 4, STATE));
        due("pay", stage, new int[0], (x, a) -> x.pay(), unless(stage.runs < 12, STATE));
    }

    private static void telling(Stage stage) {
        int[] persons = {0, stage.persons - 1};
        int[] households = {0, stage.households - 1};
        int[] homes = {-1, stage.households - 1};
        for (int[] c : cases(persons, homes, DAY)) {
            due("move", stage, c, (x, a) -> x.move(a[0], a[1], a[2]),
                    unless(in(c[0], persons) && in(c[1], homes), INDEX), unless(in(c[2], DAY), ARGUMENT));
        }
        for (int[] c : cases(persons, NUMBER, DAY)) {
            due("setIncome", stage, c, (x, a) -> x.setIncome(a[0], a[1], a[2]),
                    unless(in(c[0], persons), INDEX), unless(in(c[1], NUMBER) && in(c[2], DAY), ARGUMENT));
        }
        for (int[] c : cases(households, NUMBER, DAY)) {
            due("setRent", stage, c, (x, a) -> x.setRent(a[0], a[1], a[2]),
                    unless(in(c[0], households), INDEX), unless(in(c[1], NUMBER) && in(c[2], DAY), ARGUMENT));
        }
    }

    /** The offices have facts of persons on the days 0, 30, 200 and 359 at most. */
    private static void takingBack(Stage stage) {
        int[] persons = {0, stage.persons - 1};
        for (int[] c : cases(persons, DAY)) {
            due("takeBackMove", stage, c, (x, a) -> x.takeBackMove(a[0], a[1]), unless(in(c[0], persons), INDEX),
                    unless(in(c[1], DAY) && told(stage, "home", c[0], c[1]), ELEMENT));
            due("takeBackIncome", stage, c, (x, a) -> x.takeBackIncome(a[0], a[1]), unless(in(c[0], persons), INDEX),
                    unless(in(c[1], DAY) && told(stage, "income", c[0], c[1]), ELEMENT));
        }
        for (int person = 0; person < stage.persons; person++) {
            for (int day : new int[] {1, 29, 31, 199, 201, 358}) {
                int[] c = {person, day};
                due("takeBackMove", stage, c, (x, a) -> x.takeBackMove(a[0], a[1]), ELEMENT);
                due("takeBackIncome", stage, c, (x, a) -> x.takeBackIncome(a[0], a[1]), ELEMENT);
            }
        }
    }

    private static boolean told(Stage stage, String kind, int person, int day) {
        if (stage.persons == 8) {
            return true;
        }
        TreeSet<String> facts = new TreeSet<>(List.of("home 0 0", "home 0 200", "home 1 0", "home 1 359", "income 0 0",
                "income 1 30", "income 1 359"));
        return facts.contains(kind + " " + person + " " + day);
    }

    private static void rules(Stage stage) {
        for (int i = 0; i < RULES.length(); i++) {
            char rule = RULES.charAt(i);
            int[] values = {0, GREATEST[i]};
            for (int[] c : cases(values, DAY)) {
                due("setRule " + rule, stage, c, (x, a) -> x.setRule(rule, a[0], a[1]),
                        unless(in(c[0], values) && in(c[1], DAY), ARGUMENT));
            }
            for (int[] c : cases(DAY)) {
                due("ruleAt " + rule, stage, c, (x, a) -> x.ruleAt(rule, a[0]), unless(in(c[0], DAY), ARGUMENT));
                boolean last = c[0] == 359 && (stage.persons == 8 || stage.persons == 2 && rule == 'p');
                due("takeBackRule " + rule, stage, c, (x, a) -> x.takeBackRule(rule, a[0]),
                        unless(c[0] == 0 || last, ELEMENT), unless(c[0] != 0, UnsupportedOperationException.class));
            }
            noRules(stage, (char) (rule - 32), (char) (rule + 256));
        }
        noRules(stage, 'b', 'n', 'z', (char) 0, (char) 65535);
    }

    private static void noRules(Stage stage, char... letters) {
        for (char letter : letters) {
            for (int[] c : cases(NUMBER, DAY)) {
                due("setRule of no rule", stage, c, (x, a) -> x.setRule(letter, a[0], a[1]), ELEMENT);
            }
            for (int[] c : cases(DAY)) {
                due("ruleAt of no rule", stage, c, (x, a) -> x.ruleAt(letter, a[0]), ELEMENT);
                due("takeBackRule of no rule", stage, c, (x, a) -> x.takeBackRule(letter, a[0]), ELEMENT);
            }
        }
    }

    private static void payments(Stage stage) {
        int[] households = {0, stage.households - 1};
        for (int[] c : cases(households, MONTH)) {
            due("payment", stage, c, (x, a) -> x.payment(a[0], a[1]),
                    unless(in(c[0], households) && in(c[1], MONTH), INDEX), unless(c[1] < stage.runs, ELEMENT));
            due("paidFor", stage, c, (x, a) -> x.paidFor(a[0], a[1]),
                    unless(in(c[0], households) && in(c[1], MONTH), INDEX));
        }
        for (int household = 0; household < stage.households; household++) {
            for (int month = 0; month < 12; month++) {
                int[] c = {household, month};
                due("payment", stage, c, (x, a) -> x.payment(a[0], a[1]), unless(month < stage.runs, ELEMENT));
            }
        }
        for (int[] c : cases(households)) {
            due("balance", stage, c, (x, a) -> x.balance(a[0]), unless(in(c[0], households), INDEX));
            due("isSettled", stage, c, (x, a) -> x.isSettled(a[0]), unless(in(c[0], households), INDEX));
        }
        due("keptShare", stage, new int[0], (x, a) -> x.keptShare(),
                unless(stage.runs > 0, ArithmeticException.class));
        due("meanPayment", stage, new int[0], (x, a) -> x.meanPayment(),
                unless(stage.runs > 0, ArithmeticException.class));
    }

    private static void days(Stage stage) {
        int[] persons = {0, stage.persons - 1};
        int[] households = {0, stage.households - 1};
        for (int[] c : cases(persons, DAY)) {
            due("homeOf", stage, c, (x, a) -> x.homeOf(a[0], a[1]),
                    unless(in(c[0], persons), INDEX), unless(in(c[1], DAY), ARGUMENT));
        }
        for (int[] c : cases(households, DAY)) {
            Class<?> none = unless(in(c[0], households), INDEX);
            Class<?> never = unless(in(c[1], DAY), ARGUMENT);
            due("adults", stage, c, (x, a) -> x.adults(a[0], a[1]), none, never);
            due("children", stage, c, (x, a) -> x.children(a[0], a[1]), none, never);
            due("incomeOf", stage, c, (x, a) -> x.incomeOf(a[0], a[1]), none, never);
            due("adultAmount", stage, c, (x, a) -> x.adultAmount(a[0], a[1]), none, never);
            due("childAmount", stage, c, (x, a) -> x.childAmount(a[0], a[1]), none, never);
            due("housingAmount", stage, c, (x, a) -> x.housingAmount(a[0], a[1]), none, never);
            due("reason", stage, c, (x, a) -> x.reason(a[0], a[1]), none, never);
            due("nextChange", stage, c, (x, a) -> x.nextChange(a[0], a[1]), none, never, unless(c[1] < 359, ELEMENT));
        }
    }

    private static void months(Stage stage) {
        int[] households = {0, stage.households - 1};
        for (int[] c : cases(households, MONTH)) {
            Class<?> none = unless(in(c[0], households) && in(c[1], MONTH), INDEX);
            due("entitlement", stage, c, (x, a) -> x.entitlement(a[0], a[1]), none);
            due("entitlementByDays", stage, c, (x, a) -> x.entitlementByDays(a[0], a[1]), none);
        }
    }

    // ---- the arguments and what is due

    private static boolean in(int number, int[] range) {
        return number >= range[0] && number <= range[1];
    }

    private static Class<?> unless(boolean right, Class<?> exception) {
        return right ? null : exception;
    }

    /**
     * All pairings of the least and the greatest value of each range and the ones just outside, and the values far
     * outside of each range (such as one that a byte, a short or a product with 30 would wrap into it) with the least
     * values of the others.
     */
    private static List<int[]> cases(int[]... ranges) {
        List<int[]> found = new ArrayList<>();
        found.add(new int[0]);
        for (int[] range : ranges) {
            List<int[]> longer = new ArrayList<>();
            for (int[] start : found) {
                for (int number : near(range)) {
                    int[] next = Arrays.copyOf(start, start.length + 1);
                    next[start.length] = number;
                    longer.add(next);
                }
            }
            found = longer;
        }
        for (int i = 0; i < ranges.length; i++) {
            for (int number : far(ranges[i][0])) {
                int[] next = new int[ranges.length];
                for (int k = 0; k < next.length; k++) {
                    next[k] = k == i ? number : ranges[k][0];
                }
                found.add(next);
            }
        }
        return found;
    }

    private static TreeSet<Integer> near(int[] range) {
        return new TreeSet<>(List.of(range[0] - 1, range[0], range[1], range[1] + 1));
    }

    private static int[] far(int least) {
        return new int[] {Integer.MIN_VALUE, Integer.MIN_VALUE + least + 1, -1000, least + 65536, least - 65536, 143165577,
                Integer.MAX_VALUE};
    }

    /** The first of these that is not null is due; if all are, the call answers. */
    private static void due(String name, Stage stage, int[] arguments, Call call, Class<?>... exceptions) {
        String what = name + Arrays.toString(arguments) + " on " + stage.name;
        for (Class<?> exception : exceptions) {
            if (exception != null) {
                Check.refused(what, exception, stage.before, x -> call.on(x, arguments), stage.states);
                return;
            }
        }
        BenefitOffice office = new BenefitOffice();
        stage.before.accept(office);
        Check.same(what, Check.thrown(office, x -> call.on(x, arguments)), "nothing thrown");
    }
}
