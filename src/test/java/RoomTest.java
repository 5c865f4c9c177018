import java.lang.reflect.Array;
import java.lang.reflect.Field;
import java.lang.reflect.Modifier;
import java.util.ArrayList;
import java.util.IdentityHashMap;
import java.util.List;
import java.util.Map;

/** A run stays in its room: what an object holds at first, and every greater table that its formulas make it take. */
public final class RoomTest {
    private static final long MOST_OBJECTS = 600000L;
    private static final long MOST_ELEMENTS = 7300000L;
    /** From the least needs to the greatest one that a search over formulas of 40 signs has found. */
    private static final String[] FORMULAS = {
        "pep", "&peqreq", "&peqres", "&&&&&peqres&peqres&peqres&peqrespeq", "&&peqresat",
        "&&&&&!asret&arpeqset&&aspeqret&&aspeqret", "&Brr&&&&tepseq&tepqestep&tepseq&tepqes",
    };
    private static int wrong = 0;
    private static int calls = 0;

    private static void tell(String what) {
        wrong++;
        System.out.println(what);
    }

    /** Every object and array that can be reached, each once. */
    private static Map<Object, Boolean> reach(Object from) throws IllegalAccessException {
        Map<Object, Boolean> found = new IdentityHashMap<>();
        List<Object> todo = new ArrayList<>(List.of(from));
        found.put(from, true);
        while (!todo.isEmpty()) {
            Object each = todo.remove(todo.size() - 1);
            List<Object> parts = new ArrayList<>();
            if (each.getClass().isArray()) {
                for (int i = 0; !each.getClass().getComponentType().isPrimitive() && i < Array.getLength(each); i++) parts.add(Array.get(each, i));
            } else {
                for (Field f : each.getClass().getDeclaredFields()) {
                    if (Modifier.isStatic(f.getModifiers()) || f.getType().isPrimitive()) continue;
                    f.setAccessible(true);
                    parts.add(f.get(each));
                }
            }
            for (Object part : parts) if (part != null && found.put(part, true) == null) todo.add(part);
        }
        return found;
    }

    private static long elements(Iterable<Object> all) {
        long sum = 0;
        for (Object each : all) sum += each.getClass().isArray() ? Array.getLength(each) : each.getClass().getDeclaredFields().length;
        return sum;
    }

    private static void weigh(Urelementary x, String text) {
        for (char sign : text.toCharArray()) x.type(sign);
        if (!x.isAbsolute(0, 0)) tell(text + " is not absolute between a world and itself");
        x.wipe();
        calls += text.length() + 2;
    }

    public static void main(String[] args) throws IllegalAccessException {
        Urelementary x = new Urelementary();
        Map<Object, Boolean> seen = reach(x);
        int atFirst = seen.size();
        if (atFirst > 150 || elements(seen.keySet()) > 5000) tell("a new object has " + atFirst + " objects, " + elements(seen.keySet()) + " elements");
        for (int i = 0; i < 28; i++) x.set(i == 0 ? 0 : 0x5bd1e995 * i & (1 << i) - 1);
        x.world((1 << 28) - 1);
        calls += 29;
        for (String text : FORMULAS) {
            weigh(x, text);
            seen.putAll(reach(x));
        }
        long all = elements(seen.keySet());
        if (calls > 512) tell(calls + " calls are more than a run has");
        if (seen.size() != atFirst + 4) tell("calls made " + (seen.size() - atFirst) + " objects or arrays that last, four greater tables are due");
        if (seen.size() > MOST_OBJECTS || all > MOST_ELEMENTS) tell("a run takes " + seen.size() + " objects, " + all + " elements");
        System.out.println(calls + " calls, " + seen.size() + " objects and arrays, " + all + " elements, " + wrong + " wrong");
        if (wrong != 0) System.exit(1);
    }
}
