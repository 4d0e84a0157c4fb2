import java.util.ArrayList;
import java.util.HashMap;
import java.util.List;
import java.util.Map;
import java.util.NoSuchElementException;
import java.util.TreeMap;

/** The document written down once more, word by word and without regard to speed, to compare with. */
final class PlainOffice {
    private static final Map<Character, Integer> GREATEST =
            Map.of('a', 99, 'c', 99, 'f', 99, 'r', 99, 't', 999, 'p', 100, 'm', 999);

    private final List<Integer> ages = new ArrayList<>();
    private final List<TreeMap<Integer, Integer>> homes = new ArrayList<>();
    private final List<TreeMap<Integer, Integer>> incomes = new ArrayList<>();
    private final List<TreeMap<Integer, Integer>> rents = new ArrayList<>();
    private final Map<Character, TreeMap<Integer, Integer>> rules = new HashMap<>();
    private final List<int[]> paid = new ArrayList<>();
    private final List<int[]> payments = new ArrayList<>();
    private int runs = 0;
    private long count = 0;
    private long total = 0;
    private long kept = 0;

    PlainOffice() {
        Map.of('a', 10, 'c', 5, 'f', 3, 'r', 20, 't', 15, 'p', 50, 'm', 60)
                .forEach((rule, value) -> rules.put(rule, new TreeMap<>(Map.of(0, value))));
    }

    int addPerson(int age) {
        argument(age >= 0 && age <= 999);
        state(ages.size() < 8);
        ages.add(age);
        homes.add(new TreeMap<>());
        incomes.add(new TreeMap<>());
        return ages.size() - 1;
    }

    int addHousehold() {
        state(rents.size() < 4);
        rents.add(new TreeMap<>());
        paid.add(new int[12]);
        payments.add(new int[12]);
        return rents.size() - 1;
    }

    int move(int person, int household, int day) {
        index(person, ages.size());
        index(household + 1L, rents.size() + 1);
        day(day);
        return tell(homes.get(person), household, day, -1);
    }

    int setIncome(int person, int income, int day) {
        index(person, ages.size());
        argument(income >= 0 && income <= 999);
        day(day);
        return tell(incomes.get(person), income, day, 0);
    }

    int setRent(int household, int rent, int day) {
        index(household, rents.size());
        argument(rent >= 0 && rent <= 999);
        day(day);
        return tell(rents.get(household), rent, day, 0);
    }

    int setRule(char rule, int value, int day) {
        element(rules.containsKey(rule));
        argument(value >= 0 && value <= GREATEST.get(rule));
        day(day);
        return tell(rules.get(rule), value, day, 0);
    }

    int takeBackMove(int person, int day) {
        index(person, ages.size());
        element(homes.get(person).containsKey(day));
        return homes.get(person).remove(day);
    }

    int takeBackIncome(int person, int day) {
        index(person, ages.size());
        element(incomes.get(person).containsKey(day));
        return incomes.get(person).remove(day);
    }

    int takeBackRule(char rule, int day) {
        element(rules.containsKey(rule) && rules.get(rule).containsKey(day));
        if (day == 0) {
            throw new UnsupportedOperationException();
        }
        return rules.get(rule).remove(day);
    }

    int pay() {
        state(runs < 12);
        int sum = 0;
        for (int household = 0; household < rents.size(); household++) {
            int payment = run(household);
            payments.get(household)[runs] = payment;
            sum += payment;
            count++;
        }
        runs++;
        total += sum;
        return sum;
    }

    private int run(int household) {
        int[] forMonth = paid.get(household);
        int due = entitlementByDays(household, runs);
        int[] gap = new int[runs];
        int[] excess = new int[runs];
        int gaps = 0;
        int excesses = 0;
        for (int month = 0; month < runs; month++) {
            int entitled = entitlementByDays(household, month);
            gap[month] = entitled > forMonth[month] ? entitled - forMonth[month] : 0;
            excess[month] = forMonth[month] > entitled ? forMonth[month] - entitled : 0;
            gaps += gap[month];
            excesses += excess[month];
        }
        if (excesses <= gaps) {
            for (int month = 0; month <= runs; month++) {
                forMonth[month] = entitlementByDays(household, month);
            }
            return due + gaps - excesses;
        }
        int debt = excesses - gaps;
        int keep = debt < due / 5 ? debt : due / 5;
        int take = gaps + keep;
        for (int month = 0; month < runs; month++) {
            forMonth[month] += gap[month];
            int part = take < excess[month] ? take : excess[month];
            forMonth[month] -= part;
            take -= part;
        }
        forMonth[runs] = due;
        kept += keep;
        return due - keep;
    }

    int paidMonths() {
        return runs;
    }

    int payment(int household, int month) {
        index(household, rents.size());
        index(month, 12);
        element(month < runs);
        return payments.get(household)[month];
    }

    int paidFor(int household, int month) {
        index(household, rents.size());
        index(month, 12);
        return paid.get(household)[month];
    }

    int balance(int household) {
        index(household, rents.size());
        int sum = 0;
        for (int month = 0; month < runs; month++) {
            sum += entitlementByDays(household, month);
            sum -= paidFor(household, month);
        }
        return sum;
    }

    boolean isSettled(int household) {
        index(household, rents.size());
        boolean settled = true;
        for (int month = 0; month < runs; month++) {
            settled &= entitlementByDays(household, month) == paidFor(household, month);
        }
        return settled;
    }

    long totalPaid() {
        return total;
    }

    long keptBack() {
        return kept;
    }

    int homeOf(int person, int day) {
        index(person, ages.size());
        day(day);
        return holds(homes.get(person), day, -1);
    }

    int ruleAt(char rule, int day) {
        element(rules.containsKey(rule));
        day(day);
        return holds(rules.get(rule), day, 0);
    }

    int adults(int household, int day) {
        index(household, rents.size());
        day(day);
        return (int) residents(household, day).stream().filter(person -> ages.get(person) <= day).count();
    }

    int children(int household, int day) {
        index(household, rents.size());
        day(day);
        return (int) residents(household, day).stream().filter(person -> ages.get(person) > day).count();
    }

    int incomeOf(int household, int day) {
        index(household, rents.size());
        day(day);
        return residents(household, day).stream().mapToInt(person -> holds(incomes.get(person), day, 0)).sum();
    }

    int adultAmount(int household, int day) {
        return amounts(household, day)[0];
    }

    int childAmount(int household, int day) {
        return amounts(household, day)[1];
    }

    int housingAmount(int household, int day) {
        return amounts(household, day)[2];
    }

    char reason(int household, int day) {
        return (char) amounts(household, day)[3];
    }

    int nextChange(int household, int day) {
        int[] before = amounts(household, day);
        for (int next = day + 1; next < 360; next++) {
            int[] after = amounts(household, next);
            if (before[0] != after[0] || before[1] != after[1] || before[2] != after[2]) {
                return next;
            }
            before = after;
        }
        throw new NoSuchElementException();
    }

    int entitlement(int household, int month) {
        return entitlementByDays(household, month);
    }

    int entitlementByDays(int household, int month) {
        index(household, rents.size());
        index(month, 12);
        int sum = 0;
        for (int day = 30 * month; day < 30 * month + 30; day++) {
            int[] amounts = amounts(household, day);
            sum += amounts[0] + amounts[1] + amounts[2];
        }
        return sum;
    }

    int facts() {
        int sum = 0;
        for (List<TreeMap<Integer, Integer>> kind : List.of(homes, incomes, rents, new ArrayList<>(rules.values()))) {
            for (TreeMap<Integer, Integer> line : kind) {
                sum += line.size();
            }
        }
        return sum;
    }

    float keptShare() {
        if (kept == 0 && total == 0) {
            throw new ArithmeticException();
        }
        return (float) kept / (float) (kept + total);
    }

    double meanPayment() {
        if (count == 0) {
            throw new ArithmeticException();
        }
        return (double) total / (double) count;
    }

    private List<Integer> residents(int household, int day) {
        List<Integer> found = new ArrayList<>();
        for (int person = 0; person < ages.size(); person++) {
            if (holds(homes.get(person), day, -1) == household) {
                found.add(person);
            }
        }
        return found;
    }

    /** The adult, the child and the housing amount, and the reason. */
    private int[] amounts(int household, int day) {
        int adults = adults(household, day);
        int children = children(household, day);
        if (adults == 0) {
            return new int[] {0, 0, 0, 'n'};
        }
        int[] amounts = new int[4];
        amounts[0] = adults * ruleAt('a', day);
        amounts[1] = children * ruleAt('c', day) + (children > 0 ? ruleAt('f', day) : 0);
        amounts[2] = Math.min(holds(rents.get(household), day, 0), ruleAt('r', day));
        int first = amounts[0] + amounts[1] + amounts[2];
        int income = incomeOf(household, day);
        int cut = income > ruleAt('t', day) ? (income - ruleAt('t', day)) * ruleAt('p', day) / 100 : 0;
        for (int i = 2; i >= 0; i -= 2) {
            int part = Math.min(cut, amounts[i]);
            amounts[i] -= part;
            cut -= part;
        }
        int sum = amounts[0] + amounts[1] + amounts[2];
        boolean tapered = sum != first;
        boolean capped = sum > ruleAt('m', day);
        if (capped) {
            share(amounts, sum, ruleAt('m', day));
        }
        amounts[3] = tapered ? (capped ? 'b' : 't') : (capped ? 'm' : 'f');
        return amounts;
    }

    private static void share(int[] amounts, int sum, int cap) {
        List<Integer> order = new ArrayList<>(List.of(0, 1, 2));
        int[] rest = new int[3];
        int left = cap;
        for (int i = 0; i < 3; i++) {
            rest[i] = amounts[i] * cap % sum;
            amounts[i] = amounts[i] * cap / sum;
            left -= amounts[i];
        }
        order.sort((x, y) -> rest[y] - rest[x]);
        for (int i = 0; i < left; i++) {
            amounts[order.get(i)]++;
        }
    }

    private static int tell(TreeMap<Integer, Integer> line, int value, int day, int otherwise) {
        int before = holds(line, day, otherwise);
        line.put(day, value);
        return before;
    }

    private static int holds(TreeMap<Integer, Integer> line, int day, int otherwise) {
        Map.Entry<Integer, Integer> fact = line.floorEntry(day);
        return fact == null ? otherwise : fact.getValue();
    }

    private static void index(long number, int size) {
        if (number < 0 || number >= size) {
            throw new IndexOutOfBoundsException();
        }
    }

    private static void day(int day) {
        argument(day >= 0 && day <= 359);
    }

    private static void argument(boolean right) {
        if (!right) {
            throw new IllegalArgumentException();
        }
    }

    private static void state(boolean right) {
        if (!right) {
            throw new IllegalStateException();
        }
    }

    private static void element(boolean there) {
        if (!there) {
            throw new NoSuchElementException();
        }
    }
}
