import java.util.ArrayList;
import java.util.HashMap;
import java.util.List;
import java.util.Map;
import java.util.Random;

/** Long formulas with deep quantifiers, beside a plain reading that keeps what it has weighed (OracleTest skips these). */
public final class DeepTest {
    private static final String VARIABLES = "pqrst";
    private static final Random random = new Random(77);
    private static int wrong = 0;
    private static int formulas = 0;

    /** A formula's text, with the end and the free variables of the part that begins at each place. */
    private static final class Reading {
        final String text;
        final int[] end;
        final int[] free;

        Reading(String text) {
            this.text = text;
            end = new int[text.length() + 1];
            free = new int[text.length() + 1];
            walk(0);
        }

        int variable(int place) { return VARIABLES.indexOf(text.charAt(place)); }

        int bit(int place) { return 1 << variable(place); }

        int walk(int i) {
            switch (text.charAt(i)) {
                case 'a': end[i] = i + 2; free[i] = bit(i + 1); break;
                case '!': end[i] = walk(i + 1); free[i] = free[i + 1]; break;
                case '&': case '|': end[i] = walk(walk(i + 1)); free[i] = free[i + 1] | free[end[i + 1]]; break;
                case 'A': case 'E': end[i] = walk(i + 2); free[i] = free[i + 2] & ~bit(i + 1); break;
                case 'B': case 'S': end[i] = walk(i + 3); free[i] = free[i + 3] & ~bit(i + 1) | bit(i + 2); break;
                default: end[i] = i + 3; free[i] = bit(i) | bit(i + 2); break;
            }
            return end[i];
        }
    }

    /** A reading in a world of a theatre, which is asked for elements, equals and atoms alone. */
    private static final class Weighing {
        final Urelementary x;
        final Reading f;
        final List<Integer> world;
        final Map<Long, Boolean> known = new HashMap<>();

        Weighing(Urelementary x, Reading f, List<Integer> world) {
            this.x = x;
            this.f = f;
            this.world = world;
        }

        boolean weigh(int i, int[] values) {
            long key = i;
            for (int v = 0; v < 5; v++) key = key * 32 + ((f.free[i] >> v & 1) == 1 ? values[v] + 1 : 0);
            Boolean before = known.get(key);
            if (before == null) known.put(key, before = weighAnew(i, values));
            return before;
        }

        boolean weighAnew(int i, int[] values) {
            switch (f.text.charAt(i)) {
                case 'a': return isAtom(x, values[f.variable(i + 1)]);
                case '!': return !weigh(i + 1, values);
                case '&': return weigh(i + 1, values) & weigh(f.end[i + 1], values);
                case '|': return weigh(i + 1, values) | weigh(f.end[i + 1], values);
                case 'A': case 'B': return range(i, values, true);
                case 'E': case 'S': return range(i, values, false);
                default:
                    int one = values[f.variable(i)];
                    int other = values[f.variable(i + 2)];
                    return f.text.charAt(i + 1) == 'e' ? x.isElement(one, other) : x.areEqual(one, other);
            }
        }

        boolean range(int i, int[] values, boolean all) {
            boolean isBounded = "BS".indexOf(f.text.charAt(i)) >= 0;
            for (int each : world) {
                if (isBounded && !x.isElement(each, values[f.variable(i + 2)])) continue;
                int[] inner = values.clone();
                inner[f.variable(i + 1)] = each;
                if (weigh(i + (isBounded ? 3 : 2), inner) != all) return !all;
            }
            return all;
        }
    }

    private static boolean isAtom(Urelementary x, int thing) {
        try {
            return x.isFixed(thing, thing, thing);
        } catch (IllegalArgumentException e) {
            return false;
        }
    }

    private static String variable(int few) { return "" + VARIABLES.charAt(random.nextInt(few)); }

    private static char either(String two) { return two.charAt(random.nextInt(2)); }

    private static String formula(int length, int few) {
        if (length == 2) return "a" + variable(few);
        if (length == 3) return random.nextInt(4) == 0 ? "!a" + variable(few) : variable(few) + (random.nextInt(4) == 0 ? "=" : "e") + variable(few);
        int kind = random.nextInt(9);
        if (kind == 0 || length == 4 && kind > 2) return "!" + formula(length - 1, few);
        if (kind < 3) return either("AE") + variable(few) + formula(length - 2, few);
        if (kind < 6) return either("BS") + variable(few) + variable(few) + formula(length - 3, few);
        int left = 2 + random.nextInt(length - 4);
        return either("&|") + formula(left, few) + formula(length - 1 - left, few);
    }

    private static List<Integer> things(int mask) {
        List<Integer> all = new ArrayList<>();
        for (int i = 0; i < 28; i++) if ((mask >> i & 1) == 1) all.add(i);
        return all;
    }

    private static int someOf(int mask) {
        int some = 0;
        while (some == 0) some = mask & random.nextInt();
        return some;
    }

    private static Urelementary theatre(int count) {
        Urelementary x = new Urelementary();
        int atoms = 0;
        for (int i = 0; i < count; i++) {
            if (atoms < 4 && random.nextInt(6) == 0) atoms = x.atom() < 0 ? 0 : atoms + 1;
            else x.set(random.nextInt() & random.nextInt() & (1 << i) - 1);
        }
        for (int i = 0; i < count; i++) {
            int set = random.nextInt(count);
            if (random.nextInt(3) == 0 && !isAtom(x, set)) x.put(set, random.nextInt(count));
        }
        return x;
    }

    private static void due(Object want, Object got, String what) {
        if (want.equals(got)) return;
        wrong++;
        System.out.println(what + " answered " + got + ", due is " + want);
    }

    private static boolean isAbsolute(Weighing smaller, Weighing greater, int[] values, int variable) {
        if (variable == 5) return smaller.weigh(0, values) == greater.weigh(0, values);
        if ((smaller.f.free[0] >> variable & 1) == 0) return isAbsolute(smaller, greater, values, variable + 1);
        for (int each : smaller.world) {
            values[variable] = each;
            if (!isAbsolute(smaller, greater, values, variable + 1)) return false;
        }
        return true;
    }

    private static void weigh(Urelementary x, List<Integer> smaller, List<Integer> greater, int[] values) {
        Reading f = new Reading(formula(30 + random.nextInt(11), 2 + random.nextInt(4)));
        x.wipe();
        for (char sign : f.text.toCharArray()) x.type(sign);
        formulas++;
        due(-1, x.fault(), f.text);
        due(f.free[0], x.free(), f.text);
        Weighing small = new Weighing(x, f, smaller);
        due(small.weigh(0, values), x.holds(0), f.text + " holds");
        int variable = random.nextInt(5);
        int count = 0;
        for (int each : smaller) {
            int[] told = values.clone();
            told[variable] = each;
            if (small.weigh(0, told)) count++;
        }
        due(count, x.satisfy(0, VARIABLES.charAt(variable)), f.text + " satisfy");
        if (Math.pow(smaller.size(), Integer.bitCount(f.free[0])) > 3000) return;
        due(isAbsolute(small, new Weighing(x, f, greater), values.clone(), 0), x.isAbsolute(0, 1), f.text + " isAbsolute");
    }

    public static void main(String[] args) {
        int runs = args.length > 0 ? Integer.parseInt(args[0]) : 3000;
        for (int run = 0; run < runs && wrong < 4; run++) {
            int count = 2 + random.nextInt(run % 10 == 0 ? 20 : 9);
            Urelementary x = theatre(count);
            int greater = someOf((1 << count) - 1);
            int smaller = someOf(greater);
            x.world(smaller);
            x.world(greater);
            int[] values = new int[5];
            for (int v = 0; v < 5; v++) {
                values[v] = things(smaller).get(random.nextInt(Integer.bitCount(smaller)));
                x.value(VARIABLES.charAt(v), values[v]);
            }
            for (int i = 0; i < 4; i++) weigh(x, things(smaller), things(greater), values);
        }
        System.out.println(formulas + " formulas, " + wrong + " wrong");
        if (wrong != 0) System.exit(1);
    }
}
