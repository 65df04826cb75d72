import java.lang.reflect.Array;
import java.lang.reflect.Field;
import java.lang.reflect.Modifier;
import java.util.IdentityHashMap;
import java.util.Map;

/** What one object holds is small from the start and never grows: all calls of a run share one room. */
public final class RoomTest {
    // So much that even a run of 512 constructors stays within 600,000 objects and 7.3 million elements.
    private static final int MOST_OBJECTS = 600000 / 512;
    private static final int MOST_ELEMENTS = 7300000 / 512;

    private final Map<Object, Boolean> seen = new IdentityHashMap<>();
    private int elements = 0;

    public static void main(String[] args) throws IllegalAccessException {
        LiveryYard yard = new LiveryYard();
        RoomTest before = new RoomTest();
        before.count(yard);
        Check.same("few objects", before.seen.size() <= MOST_OBJECTS, true);
        Check.same("few elements", before.elements <= MOST_ELEMENTS, true);
        use(yard);
        RoomTest after = new RoomTest();
        after.count(yard);
        Check.same("objects after use", after.seen.size(), before.seen.size());
        Check.same("elements after use", after.elements, before.elements);
        Check.end();
    }

    private static void use(LiveryYard yard) {
        for (int horse = 0; horse < 12; horse++) {
            yard.horse(horse % 4, horse);
            yard.takes(horse, horse % 4, 5);
        }
        for (int field = 0; field < 6; field++) {
            yard.field(field, 2, field);
        }
        Check.rules(yard, "place kind<3 or hour>1; pair not (kind=2 and kind2=1) and gate=0;");
        yard.plan();
        for (int i = 0; i < 150; i++) {
            yard.lot(i % 4, 100, i + 5);
            yard.work(i % 12, i % 3, 0);
            yard.night();
        }
        yard.foretold(0);
        yard.bill(0, 0, 100, 100);
    }

    private void count(Object object) throws IllegalAccessException {
        if (object == null || object instanceof String || seen.put(object, true) != null) {
            return;
        }
        if (object.getClass().isArray()) {
            int length = Array.getLength(object);
            elements += length;
            for (int i = 0; i < length && object instanceof Object[]; i++) {
                count(Array.get(object, i));
            }
            return;
        }
        for (Field field : object.getClass().getDeclaredFields()) {
            if (!Modifier.isStatic(field.getModifiers())) {
                elements++;
                field.setAccessible(true);
                if (!field.getType().isPrimitive()) {
                    count(field.get(object));
                }
            }
        }
    }
}
