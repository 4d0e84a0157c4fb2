import java.lang.reflect.Array;
import java.lang.reflect.Field;
import java.lang.reflect.Modifier;
import java.util.ArrayDeque;
import java.util.Collections;
import java.util.Deque;
import java.util.IdentityHashMap;
import java.util.Set;

/**
 * The room for all calls of one run: some 600,000 objects and arrays, and 7.3 million fields and elements. The dearest
 * call is the constructor: 512 of them must fit. All others keep to what the constructor made.
 */
public final class RoomTest {
    private static final int CALLS = 512;
    private static final int OBJECTS = 600_000;
    private static final int ELEMENTS = 7_300_000;

    private int objects;
    private int elements;

    public static void main(String[] args) throws Exception {
        BenefitOffice office = new BenefitOffice();
        Set<Object> made = identities();
        RoomTest fresh = count(office, made);
        Check.same("512 new offices fit by objects: " + fresh.objects, fresh.objects * CALLS < OBJECTS, true);
        Check.same("512 new offices fit by elements: " + fresh.elements, fresh.elements * CALLS < ELEMENTS, true);
        use(office);
        Set<Object> used = identities();
        count(office, used);
        Check.same("objects after many calls", used.size(), fresh.objects);
        Check.same("the objects are those of the constructor", made.containsAll(used), true);
        Check.end();
    }

    private static Set<Object> identities() {
        return Collections.newSetFromMap(new IdentityHashMap<>());
    }

    /** Each call that tells, takes back or pays, some 500 in all. */
    private static void use(BenefitOffice office) {
        for (int i = 0; i < 8; i++) {
            office.addPerson(40 * i);
        }
        for (int i = 0; i < 4; i++) {
            office.addHousehold();
        }
        for (int i = 0; i < 96; i++) {
            office.move(i % 8, i % 4, i * 3);
            office.setIncome(i % 8, i, i * 3);
            office.setRent(i % 4, i, i * 3);
            office.setRule("acfrtpm".charAt(i % 7), i, i * 3 + 1);
            if (i % 8 == 7) {
                office.pay();
                office.takeBackMove(i % 8, i * 3);
                office.takeBackIncome(i % 8, i * 3);
                office.takeBackRule("acfrtpm".charAt(i % 7), i * 3 + 1);
            }
        }
    }

    /** Puts all that the object holds into found, and counts it. */
    private static RoomTest count(Object start, Set<Object> found) throws Exception {
        RoomTest room = new RoomTest();
        Deque<Object> open = new ArrayDeque<>();
        add(start, found, open);
        while (!open.isEmpty()) {
            Object object = open.pop();
            room.objects++;
            if (object.getClass().isArray()) {
                room.elements += Array.getLength(object);
                for (int i = 0; i < Array.getLength(object) && object instanceof Object[]; i++) {
                    add(Array.get(object, i), found, open);
                }
            } else {
                room.elements += addFields(object, found, open);
            }
        }
        return room;
    }

    private static int addFields(Object object, Set<Object> found, Deque<Object> open) throws Exception {
        int fields = 0;
        for (Field field : object.getClass().getDeclaredFields()) {
            if (!Modifier.isStatic(field.getModifiers())) {
                fields++;
                field.setAccessible(true);
                if (!field.getType().isPrimitive()) {
                    add(field.get(object), found, open);
                }
            }
        }
        return fields;
    }

    private static void add(Object object, Set<Object> found, Deque<Object> open) {
        if (object != null && found.add(object)) {
            open.push(object);
        }
    }
}
