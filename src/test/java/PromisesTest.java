import java.util.NoSuchElementException;

/** For each promise: ordinary inputs, the edges that the document names, wrong inputs, and that these change nothing. */
public final class PromisesTest {
    interface Call { Object answer(); }

    private static final Class<?> BOUNDS = IndexOutOfBoundsException.class;
    private static final Class<?> ARGUMENT = IllegalArgumentException.class;
    private static final Class<?> STATE = IllegalStateException.class;
    private static final Class<?> UNSUPPORTED = UnsupportedOperationException.class;
    private static final Class<?> LACKING = NoSuchElementException.class;
    private static final int ALL_BITS = -1;

    private static int wrong = 0;
    private static int checks = 0;
    private static int promise = 0;

    private static void due(Object got, Object want) {
        checks++;
        if (!got.equals(want)) tell("answered " + got + ", due is " + want);
    }

    private static void tell(String what) {
        wrong++;
        StackTraceElement[] trace = new Throwable().getStackTrace();
        int line = 0;
        for (StackTraceElement e : trace) if (e.getMethodName().startsWith("promise") && line == 0) line = e.getLineNumber();
        System.out.println("promise " + promise + ", line " + line + ": " + what);
    }

    private static void fails(Class<?> due, Call call) {
        checks++;
        try {
            tell("answered " + call.answer() + ", due is " + due.getSimpleName());
        } catch (RuntimeException e) {
            if (e.getClass() != due) tell("throws " + e.getClass().getSimpleName() + ", due is " + due.getSimpleName());
        }
    }

    private static Urelementary theatre() { return new Urelementary(); }

    private static void write(Urelementary x, String text) {
        x.wipe();
        for (char sign : text.toCharArray()) x.type(sign);
    }

    /** 0 = {}, 1 = {0}, 2 = {0, 1}, 3 = {1}: the first sets. */
    private static Urelementary firstSets() {
        Urelementary x = theatre();
        x.set(0);
        x.set(1);
        x.set(3);
        x.set(2);
        return x;
    }

    private static void promise1() {
        Urelementary x = theatre();
        due(x.things(), 0);
        due(x.fault(), 0);
        due(x.wipe(), 0);
        fails(BOUNDS, () -> x.holds(0));
        fails(BOUNDS, () -> x.valueOf(0, 0, true));
        due(x.name(), 0);
        due(x.valueOf(0, 0, false), 3);
        due(x.algebra(2), 1);
        due(x.firstWins(0, 0), false);
        due(x.firstWins(1, 0), false);
        due(x.firstWins(1, 1), false);
        fails(ARGUMENT, () -> x.firstWins(2, 0));
        due(x.tree(1, 0), 1);
        fails(BOUNDS, () -> x.coefficient(0, 0));
        fails(BOUNDS, () -> x.isSpare(0));
        due(x.knownShare(), 0f);
        due(x.isProved(0, true), false);
        due(x.isSound(), true);
        due(x.set(0), 0);
        due(x.value('p', 0), -1);
        Urelementary y = theatre();
        due(y.things(), 0);
    }

    private static void promise2() {
        Urelementary x = theatre();
        for (int i = 0; i < 4; i++) due(x.atom(), i);
        fails(STATE, x::atom);
        due(x.things(), 4);
        Urelementary y = theatre();
        for (int i = 0; i < 27; i++) due(y.set(0), i);
        due(y.atom(), 27);
        fails(STATE, y::atom);
        due(y.things(), 28);
        Urelementary z = theatre();
        for (int i = 0; i < 28; i++) z.set(0);
        fails(STATE, z::atom);
        due(z.meanSize(), 0.0);
    }

    private static void promise3() {
        Urelementary x = theatre();
        fails(BOUNDS, () -> x.set(1));
        fails(BOUNDS, () -> x.set(ALL_BITS));
        fails(BOUNDS, () -> x.set(Integer.MIN_VALUE));
        due(x.things(), 0);
        due(x.set(0), 0);
        due(x.atom(), 1);
        due(x.set(3), 2);
        due(x.isElement(0, 2), true);
        due(x.isElement(1, 2), true);
        due(x.isElement(2, 2), false);
        fails(BOUNDS, () -> x.set(8));
        due(x.set(7), 3);
        for (int i = 4; i < 28; i++) due(x.set(1), i);
        fails(STATE, () -> x.set(0));
        fails(BOUNDS, () -> x.set(1 << 28));
        fails(BOUNDS, () -> x.set(ALL_BITS));
        due(x.things(), 28);
        Urelementary y = theatre();
        for (int i = 0; i < 27; i++) y.set(0);
        due(y.set((1 << 27) - 1), 27);
        due(y.inside(27), (1 << 27) - 1);
    }

    private static void promise4() {
        Urelementary x = theatre();
        x.set(0);
        x.set(0);
        x.atom();
        due(x.put(0, 1), true);
        due(x.put(0, 1), false);
        due(x.put(0, 0), true);
        due(x.put(0, 2), true);
        due(x.size(0), 3);
        fails(BOUNDS, () -> x.put(3, 0));
        fails(BOUNDS, () -> x.put(0, 3));
        fails(BOUNDS, () -> x.put(-1, 0));
        fails(BOUNDS, () -> x.put(0, -1));
        fails(UNSUPPORTED, () -> x.put(2, 0));
        fails(UNSUPPORTED, () -> x.put(2, 2));
        fails(BOUNDS, () -> x.put(2, 3));
        due(x.inside(2), 0);
        due(x.inside(0), 7);
        Urelementary y = theatre();
        y.set(0);
        y.set(0);
        y.set(1);
        due(y.isElement(1, 2), true);
        due(y.put(2, 1), true);
        due(y.put(2, 1), false);
        due(y.size(2), 1);
    }

    private static void promise5() {
        Urelementary x = firstSets();
        due(x.areEqual(0, 0), true);
        due(x.areEqual(0, 1), false);
        due(x.set(0), 4);
        due(x.areEqual(0, 4), true);
        due(x.set(1 << 4), 5);
        due(x.areEqual(1, 5), true);
        due(x.areEqual(5, 3), false);
        due(x.atom(), 6);
        due(x.atom(), 7);
        due(x.areEqual(6, 7), false);
        due(x.areEqual(6, 6), true);
        due(x.areEqual(0, 6), false);
        fails(BOUNDS, () -> x.areEqual(8, 0));
        fails(BOUNDS, () -> x.areEqual(0, 8));
        fails(BOUNDS, () -> x.areEqual(-1, 0));
        Urelementary y = theatre();
        for (int i = 0; i < 5; i++) y.set(0);
        y.put(0, 0);
        y.put(1, 2);
        y.put(2, 1);
        due(y.areEqual(0, 1), true);
        due(y.areEqual(1, 2), true);
        due(y.areEqual(0, 3), false);
        y.put(3, 3);
        y.put(3, 4);
        due(y.areEqual(0, 3), false);
        y.put(4, 3);
        due(y.areEqual(0, 3), true);
        Urelementary z = theatre();
        z.atom();
        z.atom();
        z.set(1);
        z.put(2, 2);
        z.set(2);
        z.put(3, 3);
        due(z.areEqual(2, 3), false);
        z.put(2, 1);
        z.put(3, 0);
        due(z.areEqual(2, 3), true);
    }

    private static void promise6() {
        Urelementary x = firstSets();
        due(x.isElement(0, 1), true);
        due(x.isElement(1, 0), false);
        due(x.isElement(1, 1), false);
        x.set(0);
        due(x.isElement(4, 2), true);
        due(x.isElement(4, 3), false);
        x.put(4, 4);
        due(x.isElement(4, 4), true);
        due(x.isElement(4, 2), false);
        x.atom();
        due(x.isElement(0, 5), false);
        due(x.isElement(5, 5), false);
        x.set(1 << 5);
        due(x.isElement(5, 6), true);
        fails(BOUNDS, () -> x.isElement(7, 0));
        fails(BOUNDS, () -> x.isElement(0, 7));
        fails(BOUNDS, () -> x.isElement(-1, 0));
        fails(BOUNDS, () -> x.isElement(0, Integer.MAX_VALUE));
    }

    private static void promise7() {
        Urelementary x = firstSets();
        due(x.size(0), 0);
        due(x.size(2), 2);
        x.set(0);
        x.set(1 << 0 | 1 << 1 | 1 << 4);
        due(x.size(5), 2);
        x.put(4, 4);
        due(x.size(5), 3);
        x.atom();
        due(x.size(6), 0);
        fails(BOUNDS, () -> x.size(7));
        fails(BOUNDS, () -> x.size(-1));
    }

    private static void promise8() {
        Urelementary x = firstSets();
        due(x.isFounded(0), true);
        due(x.isFounded(2), true);
        x.atom();
        due(x.isFounded(4), true);
        x.set(0);
        x.set(1 << 5);
        due(x.isFounded(6), true);
        x.put(5, 6);
        due(x.isFounded(5), false);
        due(x.isFounded(6), false);
        due(x.set(1 << 6), 7);
        due(x.isFounded(7), false);
        due(x.isFounded(2), true);
        fails(BOUNDS, () -> x.isFounded(8));
        fails(BOUNDS, () -> x.isFounded(-1));
    }

    private static void promise9() {
        Urelementary x = firstSets();
        due(x.rank(0), 0);
        due(x.rank(1), 1);
        due(x.rank(2), 2);
        due(x.rank(3), 2);
        due(x.atom(), 4);
        due(x.rank(4), 0);
        due(x.set(1 << 4 | 1 << 2), 5);
        due(x.rank(5), 3);
        x.set(0);
        x.put(6, 6);
        x.set(1 << 6);
        fails(LACKING, () -> x.rank(6));
        fails(LACKING, () -> x.rank(7));
        fails(BOUNDS, () -> x.rank(8));
        fails(BOUNDS, () -> x.rank(-1));
        Urelementary y = theatre();
        y.set(0);
        for (int i = 1; i < 28; i++) y.set(1 << (i - 1));
        due(y.rank(27), 27);
    }

    private static void promise10() {
        Urelementary x = firstSets();
        due(x.code(0), 0L);
        due(x.code(1), 1L);
        due(x.code(2), 3L);
        due(x.code(3), 2L);
        due(x.set(15), 4);
        due(x.code(4), 15L);
        x.set(0);
        due(x.set(1 | 1 << 5), 6);
        due(x.code(6), 1L);
        due(x.set(1 << 4), 7);
        due(x.code(7), 1L << 15);
        due(x.set(1 << 7), 8);
        fails(STATE, () -> x.code(8));
        due(x.set(1 << 8), 9);
        fails(STATE, () -> x.code(9));
        due(x.atom(), 10);
        fails(LACKING, () -> x.code(10));
        due(x.set(1 << 10), 11);
        due(x.set(1 << 11 | 1 << 7), 12);
        fails(LACKING, () -> x.code(11));
        fails(LACKING, () -> x.code(12));
        due(x.set(0), 13);
        x.put(13, 13);
        fails(LACKING, () -> x.code(13));
        fails(BOUNDS, () -> x.code(14));
        fails(BOUNDS, () -> x.code(-1));
        promise10Edge();
    }

    /** 61 = 1 + 4 + 8 + 16 + 32: the elements have the codes 0, 2, 3, 4 and 5; 62 = 61 + 2 - 1. */
    private static void promise10Edge() {
        Urelementary x = firstSets();
        due(x.set(1 << 3), 4);
        due(x.set(1 | 1 << 3), 5);
        due(x.code(4), 4L);
        due(x.code(5), 5L);
        due(x.set(1 | 1 << 3 | 1 << 2 | 1 << 4 | 1 << 5), 6);
        due(x.code(6), 61L);
        due(x.set(1 << 6), 7);
        due(x.code(7), 1L << 61);
        due(x.set(1 << 6 | 1), 8);
        due(x.code(8), (1L << 61) + 1L);
        due(x.set(1 << 1 | 1 << 3 | 1 << 2 | 1 << 4 | 1 << 5), 9);
        due(x.code(9), 62L);
        due(x.set(1 << 9), 10);
        fails(STATE, () -> x.code(10));
    }

    private static void promise11() {
        Urelementary x = firstSets();
        due(x.inside(0), 0);
        due(x.inside(1), 1);
        due(x.inside(2), 3);
        due(x.inside(3), 3);
        x.set(0);
        due(x.inside(1), 1);
        x.put(4, 4);
        due(x.inside(4), 1 << 4);
        x.atom();
        due(x.inside(5), 0);
        due(x.set(1 << 5 | 1 << 3 | 1 << 4), 6);
        due(x.inside(6), 1 | 2 | 1 << 3 | 1 << 4 | 1 << 5);
        fails(BOUNDS, () -> x.inside(7));
        fails(BOUNDS, () -> x.inside(-1));
        Urelementary y = theatre();
        y.set(0);
        for (int i = 1; i < 28; i++) y.set(1 << (i - 1));
        due(y.inside(27), (1 << 27) - 1);
    }

    private static void promise12() {
        Urelementary x = firstSets();
        due(x.isTransitive(0), true);
        due(x.isTransitive(1), true);
        due(x.isTransitive(2), true);
        due(x.isTransitive(3), false);
        x.atom();
        due(x.isTransitive(4), true);
        due(x.set(1 << 4), 5);
        due(x.isTransitive(5), true);
        due(x.set(1 << 5), 6);
        due(x.isTransitive(6), false);
        x.set(0);
        x.put(7, 7);
        due(x.isTransitive(7), true);
        due(x.set(0), 8);
        due(x.set(1 << 8 | 1 << 1), 9);
        due(x.isTransitive(9), true);
        fails(BOUNDS, () -> x.isTransitive(10));
        fails(BOUNDS, () -> x.isTransitive(-1));
    }

    private static void promise13() {
        Urelementary x = firstSets();
        due(x.sum(2), 4);
        due(x.inside(4), 1);
        due(x.areEqual(4, 1), true);
        due(x.sum(0), 5);
        due(x.size(5), 0);
        x.atom();
        due(x.set(1 << 6 | 1 << 2), 7);
        due(x.sum(7), 8);
        due(x.areEqual(8, 2), true);
        fails(UNSUPPORTED, () -> x.sum(6));
        fails(BOUNDS, () -> x.sum(9));
        fails(BOUNDS, () -> x.sum(-1));
        due(x.things(), 9);
        while (x.things() < 28) x.set(0);
        fails(STATE, () -> x.sum(0));
        fails(UNSUPPORTED, () -> x.sum(6));
        fails(BOUNDS, () -> x.sum(28));
        due(x.things(), 28);
    }

    private static void promise14() {
        Urelementary x = theatre();
        String signs = "pqrste=a!&|AEBS";
        for (int i = 0; i < signs.length(); i++) due(x.type(signs.charAt(i)), i + 1);
        for (char sign : new char[] {'x', 'P', ' ', (char) 0, (char) 255, (char) 65535, '*', 'b', 'u', 'o'}) {
            fails(ARGUMENT, () -> x.type(sign));
        }
        for (int i = 15; i < 40; i++) due(x.type('!'), i + 1);
        fails(STATE, () -> x.type('!'));
        fails(ARGUMENT, () -> x.type('x'));
        due(x.wipe(), 40);
    }

    private static void promise15() {
        Urelementary x = theatre();
        due(x.wipe(), 0);
        write(x, "peq");
        due(x.fault(), -1);
        due(x.wipe(), 3);
        due(x.fault(), 0);
        due(x.wipe(), 0);
        due(x.fault(), 0);
        due(x.type('a'), 1);
        x.set(0);
        due(x.value('p', 0), -1);
        x.wipe();
        due(x.value('p', 0), 0);
    }

    private static void promise16() {
        String[] texts = {"", "p", "pe", "peq", "p=q", "ap", "a", "!", "!ap", "&", "&ap", "&apaq", "|apaq", "A", "Ap", "Apap",
            "Epap", "B", "Bp", "Bpq", "Bpqap", "Sppap", "pp", "e", "=", "pa", "pep!", "apq", "aa", "AA", "Ap!", "ABp", "Bpe",
            "BpA", "&apaqar", "!e", "peA", "&&apapap", "&!ap|pepp=p", "Apa", "ApApApAp", "S=", "|ap&"};
        int[] faults = {0, 1, 2, -1, -1, -1, 1, 1, -1, 1, 3, -1, -1, 1, 2, -1,
            -1, 1, 2, 3, -1, -1, 1, 0, 0, 1, 3, 2, 1, 1, 3, 1, 2,
            2, 5, 1, 2, -1, -1, 3, 8, 1, 4};
        Urelementary x = theatre();
        for (int i = 0; i < texts.length; i++) {
            write(x, texts[i]);
            checks++;
            int got = x.fault();
            if (got != faults[i]) tell("'" + texts[i] + "' has the fault " + got + ", due is " + faults[i]);
        }
    }

    private static void promise17() {
        Urelementary x = theatre();
        fails(ARGUMENT, x::free);
        write(x, "pe");
        fails(ARGUMENT, x::free);
        String[] texts = {"peq", "at", "Apap", "Appeq", "Bpqper", "Bppap", "Sppap", "&peqArres", "&apApap", "&ApapBqpaq", "s=s"};
        int[] free = {3, 16, 0, 2, 6, 1, 1, 11, 1, 1, 8};
        for (int i = 0; i < texts.length; i++) {
            write(x, texts[i]);
            due(x.free(), free[i]);
        }
        write(x, "&peq&rest=t");
        due(x.free(), 31);
    }

    private static void promise18() {
        Urelementary x = theatre();
        fails(ARGUMENT, x::isBounded);
        String[] texts = {"peq", "Bpqap", "!Spqap", "Apap", "Epap", "&apAqaq", "BpqEras", "Spp!ap"};
        boolean[] bounded = {true, true, true, false, false, false, false, true};
        for (int i = 0; i < texts.length; i++) {
            write(x, texts[i]);
            due(x.isBounded(), bounded[i]);
        }
        write(x, "A");
        fails(ARGUMENT, x::isBounded);
    }

    private static void promise19() {
        Urelementary x = theatre();
        fails(ARGUMENT, x::isStratified);
        String[] texts = {"peq", "pep", "p=p", "&peqqep", "&peqqer", "&peq&qerper", "&peqp=q", "Bppap", "Bpqap", "&BpqapAqqep", "Apap", "&peq&rerpes",
            "&Apap!peq", "&SpqapEqpeq"};
        boolean[] stratified = {true, false, true, false, true, false, false, false, true, false, true, false, true, true};
        for (int i = 0; i < texts.length; i++) {
            write(x, texts[i]);
            checks++;
            if (x.isStratified() != stratified[i]) tell("'" + texts[i] + "' is weighed wrongly");
        }
    }

    private static void promise20() {
        Urelementary x = theatre();
        fails(ARGUMENT, () -> x.typeOf('p'));
        write(x, "&peqqer");
        due(x.typeOf('p'), 0);
        due(x.typeOf('q'), 1);
        due(x.typeOf('r'), 2);
        fails(LACKING, () -> x.typeOf('s'));
        fails(ARGUMENT, () -> x.typeOf('x'));
        fails(ARGUMENT, () -> x.typeOf('e'));
        fails(ARGUMENT, () -> x.typeOf((char) 65535));
        write(x, "&qep");
        fails(ARGUMENT, () -> x.typeOf('p'));
        write(x, "Eqqer");
        fails(LACKING, () -> x.typeOf('p'));
        due(x.typeOf('r'), 1);
        write(x, "&qep&Asasr=t");
        due(x.typeOf('p'), 1);
        due(x.typeOf('q'), 0);
        due(x.typeOf('r'), 0);
        due(x.typeOf('s'), 0);
        due(x.typeOf('t'), 0);
        write(x, "&&peqres&setr=q");
        due(x.typeOf('p'), 0);
        due(x.typeOf('q'), 1);
        due(x.typeOf('r'), 1);
        due(x.typeOf('s'), 2);
        due(x.typeOf('t'), 3);
        write(x, "&Bpqapaq");
        due(x.typeOf('p'), 0);
        due(x.typeOf('q'), 1);
        write(x, "Bppap");
        fails(LACKING, () -> x.typeOf('p'));
        fails(ARGUMENT, () -> x.typeOf('x'));
        write(x, "Arap");
        due(x.typeOf('r'), 0);
        write(x, "&&&tesserreqqep");
        due(x.typeOf('t'), 0);
        due(x.typeOf('p'), 4);
    }

    private static void promise21() {
        Urelementary x = firstSets();
        due(x.value('p', 1), -1);
        due(x.value('p', 2), 1);
        due(x.value('p', 2), 2);
        due(x.value('t', 0), -1);
        fails(ARGUMENT, () -> x.value('x', 0));
        fails(ARGUMENT, () -> x.value('x', 9));
        fails(ARGUMENT, () -> x.value('e', 0));
        fails(BOUNDS, () -> x.value('p', 4));
        fails(BOUNDS, () -> x.value('p', -1));
        fails(BOUNDS, () -> x.value('q', 4));
        due(x.value('p', 0), 2);
        due(x.value('q', 0), -1);
    }

    private static void promise22() {
        Urelementary x = firstSets();
        fails(ARGUMENT, () -> x.world(0));
        fails(BOUNDS, () -> x.world(16));
        fails(BOUNDS, () -> x.world(ALL_BITS));
        due(x.world(1), 0);
        due(x.world(1), 1);
        for (int i = 2; i < 8; i++) due(x.world(15), i);
        fails(STATE, () -> x.world(1));
        fails(ARGUMENT, () -> x.world(0));
        fails(BOUNDS, () -> x.world(16));
        write(x, "p=p");
        due(x.satisfy(0, 'p'), 1);
        due(x.satisfy(7, 'p'), 4);
        fails(BOUNDS, () -> x.satisfy(8, 'p'));
    }

    private static void promise23() {
        Urelementary x = firstSets();
        x.world(15);
        x.world(3);
        write(x, "Ap!pep");
        due(x.holds(0), true);
        write(x, "EpAq!qep");
        due(x.holds(0), true);
        write(x, "EpAq|q=pqep");
        due(x.holds(0), false);
        due(x.holds(1), true);
        write(x, "peq");
        fails(UNSUPPORTED, () -> x.holds(0));
        x.value('p', 0);
        fails(UNSUPPORTED, () -> x.holds(0));
        x.value('q', 2);
        due(x.holds(0), true);
        fails(UNSUPPORTED, () -> x.holds(1));
        fails(BOUNDS, () -> x.holds(2));
        fails(BOUNDS, () -> x.holds(-1));
        write(x, "Bpqpeq");
        due(x.holds(0), true);
        write(x, "BqqAp!peq");
        due(x.holds(0), false);
        write(x, "Sqq&qeq=");
        fails(ARGUMENT, () -> x.holds(0));
        fails(BOUNDS, () -> x.holds(5));
        x.wipe();
        fails(ARGUMENT, () -> x.holds(0));
        promise23More();
        promise23Deep();
    }

    /** A row of 28 sets, each the only element of the next one: deep formulas over all of them come to an end. */
    private static void promise23Deep() {
        Urelementary x = theatre();
        x.set(0);
        for (int i = 1; i < 28; i++) x.set(1 << (i - 1));
        x.world((1 << 28) - 1);
        x.world((1 << 28) - 2);
        String[] texts = {"ApAqArAsAtApAqArAsAtApAqArAsAtApAqArp=p", "EpEqErEsEtEpEqErEsEtEpEqErEsEtEpEqEr!p=p",
            "EpEqErEsEt&peq&qer&res&setBpp!p=p", "ApAqArAsAt|!peq|!qer|!res|!set!tep", "ApAqArAsEt&||peq!qerresset",
            "ApEqArEsAt||!perqes!t=t", "ApBqpBrqBsrBtsSptSqpSrqSsrStss=s"};
        boolean[] due = {true, false, true, true, false, true, false};
        for (int i = 0; i < texts.length; i++) {
            write(x, texts[i]);
            due(x.fault(), -1);
            checks++;
            if (x.holds(0) != due[i]) tell("'" + texts[i] + "' is weighed wrongly");
            if (x.free() == 0) due(x.isAbsolute(0, 0), true);
        }
        write(x, "BqpBrqBsrBtsEpptt");
        due(x.fault(), 15);
        write(x, "BqpBrqBsrBtsEppet");
        due(x.satisfy(0, 'p'), 27);
        due(x.satisfy(1, 'p'), 26);
        write(x, "|&peq&resteq!&rep!sep");
        due(x.isAbsolute(1, 0), true);
        write(x, "|&peq&resteqEp&peqres");
        due(x.isAbsolute(1, 0), false);
    }

    private static void promise23More() {
        Urelementary x = firstSets();
        x.atom();
        x.set(1 << 4);
        x.world(63);
        x.value('q', 2);
        String[] texts = {"Epap", "Apap", "AqBrqaq", "Sqqaq", "!Sqq!EpSpqp=q", "SrqBpr!p=p", "BrqBpr!p=p", "Spq&EqqepErrep", "Epq=p", "EqAp!peq",
            "EpSqp&aqErreq", "&EpapEp!ap", "|EpapAp!p=p", "ApSqpq=q", "EqBpqaq"};
        boolean[] due = {true, false, false, false, false, true, false, true, true, true, false, true, true, false, true};
        x.set(0);
        for (int i = 0; i < texts.length; i++) {
            write(x, texts[i]);
            checks++;
            if (x.holds(0) != due[i]) tell("'" + texts[i] + "' is weighed wrongly");
        }
        write(x, "Ap|peqp=q");
        x.value('q', 6);
        fails(UNSUPPORTED, () -> x.holds(0));
    }

    private static void promise24() {
        Urelementary x = firstSets();
        x.set(0);
        x.world(31);
        x.world(1 << 1);
        write(x, "peq");
        fails(UNSUPPORTED, () -> x.satisfy(0, 'p'));
        fails(UNSUPPORTED, () -> x.satisfy(0, 'r'));
        x.value('q', 1);
        due(x.satisfy(0, 'p'), 2);
        due(x.satisfy(1, 'p'), 0);
        fails(UNSUPPORTED, () -> x.satisfy(0, 'q'));
        x.value('p', 4);
        due(x.satisfy(0, 'q'), 2);
        fails(UNSUPPORTED, () -> x.satisfy(1, 'q'));
        due(x.satisfy(0, 't'), 5);
        x.value('q', 0);
        due(x.satisfy(0, 't'), 0);
        write(x, "Appep");
        due(x.satisfy(0, 'p'), 0);
        write(x, "Bpppep");
        due(x.satisfy(0, 'p'), 2);
        fails(BOUNDS, () -> x.satisfy(2, 'x'));
        fails(ARGUMENT, () -> x.satisfy(0, 'x'));
        x.type('p');
        fails(ARGUMENT, () -> x.satisfy(0, 'p'));
        fails(BOUNDS, () -> x.satisfy(-1, 'p'));
        write(x, "Eqqep");
        due(x.satisfy(0, 'p'), 3);
        due(x.satisfy(1, 'p'), 0);
        write(x, "Spp!ap");
        due(x.satisfy(0, 'p'), 3);
        write(x, "Bppap");
        due(x.satisfy(0, 'p'), 2);
        x.value('p', 2);
        String[] texts = {"BqpSrq!r=p", "SqpBrqr=p", "BqpArreq", "SqpEr&reqrep", "BqpErqer", "ArBqpEs&qesres"};
        boolean[] holds = {false, true, false, true, true, false};
        for (int i = 0; i < texts.length; i++) {
            write(x, texts[i]);
            checks++;
            if (x.holds(0) != holds[i]) tell("'" + texts[i] + "' is weighed wrongly");
        }
    }

    private static void promise25() {
        Urelementary x = firstSets();
        x.world(1 << 1 | 1 << 3);
        x.world(15);
        x.world(1);
        write(x, "peq");
        due(x.isAbsolute(0, 1), true);
        due(x.isAbsolute(0, 0), true);
        write(x, "Eqqep");
        due(x.isAbsolute(0, 1), false);
        due(x.isAbsolute(0, 0), true);
        due(x.isAbsolute(2, 1), true);
        write(x, "EpEq!p=q");
        due(x.isAbsolute(2, 1), false);
        due(x.isAbsolute(0, 1), true);
        fails(UNSUPPORTED, () -> x.isAbsolute(1, 0));
        fails(UNSUPPORTED, () -> x.isAbsolute(2, 0));
        fails(BOUNDS, () -> x.isAbsolute(3, 0));
        fails(BOUNDS, () -> x.isAbsolute(0, 3));
        x.type('p');
        fails(ARGUMENT, () -> x.isAbsolute(1, 0));
        fails(BOUNDS, () -> x.isAbsolute(-1, 0));
        write(x, "Bpq&peqqer");
        due(x.isAbsolute(0, 1), false);
        write(x, "Spqrer");
        due(x.isAbsolute(0, 1), true);
        write(x, "Spqper");
        due(x.isAbsolute(0, 1), false);
    }

    /** The axioms that hold in a world, by their signs. */
    private static String axioms(Urelementary x, int world) {
        StringBuilder all = new StringBuilder();
        for (char axiom : "xepuwfcn".toCharArray()) if (x.axiom(world, axiom)) all.append(axiom);
        return all.toString();
    }

    private static void promise26() {
        Urelementary x = firstSets();
        x.world(15);
        fails(BOUNDS, () -> x.axiom(1, 'x'));
        fails(BOUNDS, () -> x.axiom(-1, 'y'));
        fails(ARGUMENT, () -> x.axiom(0, 'y'));
        fails(ARGUMENT, () -> x.axiom(0, 'a'));
        fails(ARGUMENT, () -> x.axiom(0, (char) 65535));
        due(axioms(x, 0), "xeufcn");
        x.world(1);
        due(axioms(x, 1), "xeufcn");
        x.world(1 | 1 << 3);
        due(axioms(x, 2), "eufcn");
        x.set(0);
        x.put(4, 4);
        x.world(1 << 4);
        due(axioms(x, 3), "xpuwcn");
        x.atom();
        x.set(1 << 5);
        x.world(1 << 5 | 1 << 6);
        due(axioms(x, 4), "xfc");
        x.world(1 << 5);
        due(axioms(x, 5), "xuwfc");
        x.set(0);
        x.world(1 << 7 | 1 << 1);
        due(axioms(x, 6), "xeufcn");
        x.world(1 | 1 << 7);
        due(axioms(x, 7), "xeufcn");
        promise26Choice();
        promise26Loops();
    }

    /** Two atoms a, b; the family {{a}, {b}} has no choice till {a, b} is there. */
    private static void promise26Choice() {
        Urelementary x = theatre();
        x.atom();
        x.atom();
        x.set(1);
        x.set(2);
        x.set(12);
        x.world(31);
        due(x.axiom(0, 'c'), false);
        x.set(3);
        x.world(63);
        due(x.axiom(1, 'c'), true);
        x.set(1 << 5 | 1 << 2);
        x.world(127);
        due(x.axiom(2, 'c'), true);
        Urelementary y = theatre();
        y.atom();
        y.atom();
        y.set(3);
        y.set(3);
        y.set(1 << 2 | 1 << 3);
        y.world(31);
        due(y.axiom(0, 'c'), false);
        y.set(1);
        y.world(63);
        due(y.axiom(1, 'c'), true);
        Urelementary z = theatre();
        z.atom();
        z.atom();
        z.set(3);
        z.set(1);
        z.set(2);
        z.set(1 << 2 | 1 << 3 | 1 << 4);
        z.world(63);
        due(z.axiom(0, 'c'), true);
        z.set(1 << 3 | 1 << 4);
        z.world(127 & ~(1 << 2));
        due(z.axiom(1, 'c'), false);
    }

    private static void promise26Loops() {
        Urelementary x = theatre();
        for (int i = 0; i < 3; i++) x.set(0);
        x.put(0, 1);
        x.put(1, 0);
        x.put(2, 0);
        x.put(2, 2);
        x.world(7);
        due(axioms(x, 0), "xpuwcn");
        Urelementary y = theatre();
        y.set(0);
        y.set(0);
        y.set(1 | 1 << 1);
        y.put(1, 2);
        y.world(6);
        due(y.areEqual(1, 2), false);
        due(axioms(y, 0), "xuwfcn");
        y.world(7);
        due(y.axiom(1, 'f'), true);
    }

    /** 0, 1, 2 atoms; 3 = {0}, 4 = {0, 1}, 5 = {{0}, 1}, 6 = {0, 1, 2}, 7 = {}. */
    private static Urelementary atomSets() {
        Urelementary x = theatre();
        for (int i = 0; i < 3; i++) x.atom();
        x.set(1);
        x.set(3);
        x.set(8 | 2);
        x.set(7);
        x.set(0);
        return x;
    }

    private static void promise27() {
        Urelementary x = atomSets();
        due(x.isFixed(4, 0, 1), true);
        due(x.isFixed(4, 0, 2), false);
        due(x.isFixed(3, 1, 2), true);
        due(x.isFixed(3, 0, 1), false);
        due(x.isFixed(5, 0, 1), false);
        due(x.isFixed(5, 0, 0), true);
        due(x.isFixed(6, 0, 2), true);
        due(x.isFixed(7, 0, 2), true);
        due(x.isFixed(0, 0, 1), false);
        due(x.isFixed(2, 0, 1), true);
        fails(BOUNDS, () -> x.isFixed(8, 0, 1));
        fails(BOUNDS, () -> x.isFixed(0, 8, 1));
        fails(BOUNDS, () -> x.isFixed(0, 0, 8));
        fails(BOUNDS, () -> x.isFixed(0, 3, -1));
        fails(ARGUMENT, () -> x.isFixed(0, 3, 0));
        fails(ARGUMENT, () -> x.isFixed(0, 0, 3));
        due(x.set(0), 8);
        due(x.set(0), 9);
        x.put(8, 9);
        x.put(9, 8);
        x.put(8, 0);
        x.put(9, 1);
        due(x.isFixed(8, 0, 1), false);
        due(x.set(1 << 8 | 1 << 9), 10);
        due(x.isFixed(10, 0, 1), true);
    }

    private static void promise28() {
        Urelementary x = atomSets();
        due(x.support(7), 0);
        due(x.support(0), 1);
        due(x.support(2), 4);
        due(x.support(3), 1);
        due(x.support(4), 4);
        due(x.support(5), 3);
        due(x.support(6), 0);
        fails(BOUNDS, () -> x.support(8));
        fails(BOUNDS, () -> x.support(-1));
        x.atom();
        due(x.support(4), 3);
        due(x.support(6), 8);
        due(x.support(8), 8);
        Urelementary y = theatre();
        y.set(0);
        y.atom();
        y.set(2);
        y.atom();
        due(y.support(2), 1);
        due(y.support(3), 1);
        due(y.support(0), 0);
    }

    private static void promise29() {
        Urelementary x = atomSets();
        due(x.swapped(0, 0, 1), 1);
        due(x.swapped(2, 0, 1), 2);
        due(x.swapped(4, 0, 1), 4);
        fails(LACKING, () -> x.swapped(3, 0, 1));
        due(x.swapped(3, 1, 2), 3);
        due(x.set(2), 8);
        due(x.set(2), 9);
        due(x.swapped(3, 0, 1), 8);
        due(x.swapped(9, 1, 0), 3);
        due(x.swapped(9, 1, 1), 8);
        fails(BOUNDS, () -> x.swapped(10, 0, 1));
        fails(BOUNDS, () -> x.swapped(0, 10, 1));
        fails(BOUNDS, () -> x.swapped(0, 3, 10));
        fails(ARGUMENT, () -> x.swapped(3, 3, 1));
        fails(ARGUMENT, () -> x.swapped(3, 1, 3));
        fails(BOUNDS, () -> x.swapped(-1, 3, 1));
        due(x.things(), 10);
        Urelementary y = theatre();
        y.set(0);
        y.atom();
        y.atom();
        y.put(0, 1);
        fails(LACKING, () -> y.swapped(0, 1, 2));
        due(y.swapped(0, 1, 1), 0);
        y.put(0, 2);
        due(y.swapped(0, 1, 2), 0);
    }

    private static void promise30() {
        Urelementary x = theatre();
        x.name();
        x.name();
        x.give(1, 0, 3);
        fails(ARGUMENT, () -> x.algebra(0));
        fails(ARGUMENT, () -> x.algebra(5));
        fails(ARGUMENT, () -> x.algebra(-1));
        due(x.valueOf(0, 1, true), 3);
        due(x.algebra(4), 2);
        due(x.algebra(4), 0);
        fails(BOUNDS, () -> x.valueOf(0, 0, false));
        x.name();
        x.name();
        due(x.valueOf(0, 0, false), 15);
        due(x.valueOf(0, 1, true), 0);
        due(x.give(1, 0, 15), 0);
        due(x.algebra(1), 2);
        x.name();
        due(x.valueOf(0, 0, false), 1);
        fails(ARGUMENT, () -> x.quotient(0, 1));
    }

    private static void promise31() {
        Urelementary x = theatre();
        for (int i = 0; i < 12; i++) due(x.name(), i);
        fails(STATE, x::name);
        due(x.valueOf(11, 0, false), 3);
        due(x.algebra(3), 12);
        due(x.name(), 0);
    }

    private static void promise32() {
        Urelementary x = theatre();
        x.name();
        x.name();
        due(x.give(1, 0, 2), 0);
        due(x.give(1, 0, 1), 2);
        due(x.give(1, 0, 0), 1);
        due(x.give(1, 0, 3), 0);
        fails(ARGUMENT, () -> x.give(1, 0, 4));
        fails(ARGUMENT, () -> x.give(1, 0, -1));
        fails(ARGUMENT, () -> x.give(0, 1, 1));
        fails(ARGUMENT, () -> x.give(1, 1, 1));
        fails(BOUNDS, () -> x.give(2, 0, 1));
        fails(BOUNDS, () -> x.give(1, 2, 9));
        fails(BOUNDS, () -> x.give(-1, 0, 1));
        fails(BOUNDS, () -> x.give(1, -1, 1));
        due(x.give(1, 0, 3), 3);
        x.algebra(4);
        x.name();
        x.name();
        due(x.give(1, 0, 15), 0);
        fails(ARGUMENT, () -> x.give(1, 0, 16));
    }

    private static void promise33() {
        Urelementary x = theatre();
        for (int i = 0; i < 4; i++) x.name();
        x.give(1, 0, 1);
        x.give(2, 0, 3);
        due(x.valueOf(0, 1, true), 1);
        due(x.valueOf(0, 2, true), 3);
        due(x.valueOf(1, 0, true), 0);
        due(x.valueOf(0, 1, false), 2);
        due(x.valueOf(1, 0, false), 2);
        due(x.valueOf(1, 2, false), 1);
        due(x.valueOf(3, 3, false), 3);
        due(x.valueOf(3, 3, true), 0);
        due(x.valueOf(0, 3, false), 3);
        x.give(3, 1, 3);
        due(x.valueOf(0, 3, true), 2);
        due(x.valueOf(1, 3, true), 3);
        due(x.valueOf(2, 3, true), 1);
        fails(BOUNDS, () -> x.valueOf(4, 0, true));
        fails(BOUNDS, () -> x.valueOf(0, 4, true));
        fails(BOUNDS, () -> x.valueOf(-1, 0, false));
        fails(BOUNDS, () -> x.valueOf(0, -1, false));
    }

    private static void promise34() {
        Urelementary x = theatre();
        for (int i = 0; i < 4; i++) x.name();
        x.give(1, 0, 1);
        x.give(2, 1, 1);
        x.give(3, 2, 3);
        x.give(3, 0, 2);
        due(x.quotient(3, 0), 3);
        due(x.things(), 4);
        due(x.rank(3), 3);
        due(x.inside(3), 7);
        due(x.inside(1), 1);
        due(x.quotient(3, 1), 1);
        due(x.quotient(2, 1), 0);
        due(x.things(), 4);
        fails(BOUNDS, () -> x.quotient(4, 9));
        fails(BOUNDS, () -> x.quotient(-1, 0));
        fails(ARGUMENT, () -> x.quotient(0, 2));
        fails(ARGUMENT, () -> x.quotient(0, -1));
        Urelementary y = theatre();
        y.atom();
        y.set(0);
        y.set(0);
        y.put(2, 2);
        for (int i = 0; i < 3; i++) y.name();
        y.give(1, 0, 3);
        y.give(2, 0, 3);
        y.give(2, 1, 3);
        due(y.quotient(0, 0), 1);
        due(y.quotient(2, 1), 4);
        due(y.inside(4), 2 | 8);
        due(y.inside(3), 2);
        y.name();
        y.name();
        y.give(3, 2, 3);
        y.give(4, 3, 1);
        while (y.things() < 27) y.set(0);
        fails(STATE, () -> y.quotient(4, 0));
        fails(ARGUMENT, () -> y.quotient(4, 2));
        fails(BOUNDS, () -> y.quotient(5, 2));
        due(y.things(), 27);
        due(y.quotient(3, 0), 27);
        due(y.inside(27), 2 | 8 | 16);
        fails(STATE, () -> y.quotient(4, 0));
        due(y.quotient(2, 0), 4);
        due(y.quotient(4, 1), 1);
        due(y.things(), 28);
    }

    private static void promise35() {
        Urelementary x = theatre();
        x.algebra(4);
        for (int i = 0; i < 3; i++) x.name();
        due(x.nameSupport(0), 0);
        x.give(1, 0, 10);
        due(x.nameSupport(1), 10);
        x.give(1, 0, 11);
        due(x.nameSupport(1), 4);
        x.give(2, 0, 15);
        due(x.nameSupport(2), 0);
        x.give(2, 1, 4);
        due(x.nameSupport(2), 0);
        x.give(2, 1, 8);
        due(x.nameSupport(2), 8);
        fails(BOUNDS, () -> x.nameSupport(3));
        fails(BOUNDS, () -> x.nameSupport(-1));
        x.algebra(1);
        x.name();
        due(x.nameSupport(0), 0);
    }

    private static void promise36() {
        Urelementary x = theatre();
        due(x.tree(5, ALL_BITS), 1);
        due(x.firstWins(5, 31), true);
        due(x.tree(2, 15), 5);
        fails(ARGUMENT, () -> x.tree(2, 16));
        fails(ARGUMENT, () -> x.tree(4, ALL_BITS));
        fails(ARGUMENT, () -> x.tree(1, 4));
        fails(ARGUMENT, () -> x.tree(3, 256));
        fails(ARGUMENT, () -> x.tree(4, 65536));
        fails(ARGUMENT, () -> x.tree(0, 0));
        fails(ARGUMENT, () -> x.tree(6, 0));
        fails(ARGUMENT, () -> x.tree(-1, 0));
        due(x.firstWins(0, 0), true);
        due(x.tree(1, 3), 2);
        due(x.tree(4, 65535), 1);
        due(x.tree(3, 255), 4);
        due(x.tree(5, Integer.MIN_VALUE), 3);
        due(x.firstWins(5, 31), true);
        due(x.firstWins(5, 30), false);
    }

    private static void promise37() {
        Urelementary x = theatre();
        x.tree(3, 1 << 0 | 1 << 3 | 1 << 4);
        due(x.firstWins(0, 0), true);
        due(x.firstWins(1, 0), true);
        due(x.firstWins(1, 1), false);
        due(x.firstWins(2, 0), true);
        due(x.firstWins(2, 1), true);
        due(x.firstWins(2, 2), true);
        due(x.firstWins(2, 3), false);
        due(x.firstWins(3, 3), true);
        due(x.firstWins(3, 5), false);
        fails(ARGUMENT, () -> x.firstWins(4, 0));
        fails(ARGUMENT, () -> x.firstWins(-1, 0));
        fails(ARGUMENT, () -> x.firstWins(0, 1));
        fails(ARGUMENT, () -> x.firstWins(3, 8));
        fails(ARGUMENT, () -> x.firstWins(2, -1));
        fails(ARGUMENT, () -> x.firstWins(33, 0));
        x.tree(2, 0);
        for (int won = 0; won < 16; won++) {
            x.tree(2, won);
            boolean zero = (won & 3) == 3;
            boolean one = (won & 12) == 12;
            due(x.firstWins(1, 0), zero);
            due(x.firstWins(1, 1), one);
            due(x.firstWins(0, 0), zero || one);
        }
    }

    private static void promise38() {
        Urelementary x = theatre();
        x.tree(3, 1 << 0 | 1 << 3 | 1 << 4);
        due(x.move(0, 0), 0);
        due(x.move(1, 1), 1);
        fails(LACKING, () -> x.move(1, 0));
        due(x.move(2, 1), 1);
        due(x.move(2, 2), 0);
        fails(LACKING, () -> x.move(2, 3));
        fails(ARGUMENT, () -> x.move(3, 0));
        fails(ARGUMENT, () -> x.move(-1, 0));
        fails(ARGUMENT, () -> x.move(1, 2));
        fails(ARGUMENT, () -> x.move(1, -1));
        x.tree(1, 2);
        due(x.move(0, 0), 1);
        x.tree(1, 3);
        due(x.move(0, 0), 0);
        x.tree(2, 0);
        due(x.move(1, 0), 0);
        fails(LACKING, () -> x.move(0, 0));
    }

    private static void promise39() {
        Urelementary x = theatre();
        due(x.ordinal(0, 0, 0, 0), 0);
        due(x.ordinal(999, 998, 997, 996), 1);
        due(x.coefficient(1, 0), 999);
        due(x.coefficient(1, 1), 998);
        due(x.coefficient(1, 2), 997);
        due(x.coefficient(1, 3), 996);
        due(x.coefficient(1, 4), 0);
        fails(ARGUMENT, () -> x.ordinal(1000, 0, 0, 0));
        fails(ARGUMENT, () -> x.ordinal(0, 1000, 0, 0));
        fails(ARGUMENT, () -> x.ordinal(0, 0, 1000, 0));
        fails(ARGUMENT, () -> x.ordinal(0, 0, 0, 1000));
        fails(ARGUMENT, () -> x.ordinal(-1, 0, 0, 0));
        fails(ARGUMENT, () -> x.ordinal(0, 0, 0, -1));
        for (int i = 2; i < 20; i++) due(x.ordinal(i, 0, 0, 0), i);
        fails(STATE, () -> x.ordinal(1, 0, 0, 0));
        fails(ARGUMENT, () -> x.ordinal(1, 0, 0, 1000));
        due(x.coefficient(19, 0), 19);
    }

    private static void promise40() {
        Urelementary x = theatre();
        fails(BOUNDS, () -> x.coefficient(0, 0));
        x.ordinal(1, 2, 3, 4);
        due(x.coefficient(0, 0), 1);
        due(x.coefficient(0, 3), 4);
        due(x.coefficient(0, 7), 0);
        fails(ARGUMENT, () -> x.coefficient(0, 8));
        fails(ARGUMENT, () -> x.coefficient(0, -1));
        fails(BOUNDS, () -> x.coefficient(1, 8));
        fails(BOUNDS, () -> x.coefficient(-1, 0));
    }

    private static void promise41() {
        Urelementary x = theatre();
        x.ordinal(999, 0, 0, 0);
        x.ordinal(0, 1, 0, 0);
        x.ordinal(1, 1, 0, 0);
        x.ordinal(0, 0, 0, 1);
        x.ordinal(0, 1, 0, 0);
        due(x.compare(0, 1), -1);
        due(x.compare(1, 0), 1);
        due(x.compare(1, 2), -1);
        due(x.compare(3, 2), 1);
        due(x.compare(1, 4), 0);
        due(x.compare(3, 3), 0);
        fails(BOUNDS, () -> x.compare(5, 0));
        fails(BOUNDS, () -> x.compare(0, 5));
        fails(BOUNDS, () -> x.compare(-1, 0));
        fails(BOUNDS, () -> x.compare(0, -1));
    }

    private static void isOrdinal(Urelementary x, int ordinal, int... coefficients) {
        for (int power = 0; power < 8; power++) due(x.coefficient(ordinal, power), power < coefficients.length ? coefficients[power] : 0);
    }

    private static void promise42() {
        Urelementary x = theatre();
        x.ordinal(3, 2, 0, 0);
        x.ordinal(4, 0, 5, 0);
        x.ordinal(0, 0, 0, 0);
        x.ordinal(2, 0, 0, 0);
        isOrdinal(x, x.reckon(0, 1, false), 4, 0, 5);
        isOrdinal(x, x.reckon(1, 0, false), 3, 2, 5);
        isOrdinal(x, x.reckon(0, 0, false), 3, 4);
        isOrdinal(x, x.reckon(0, 2, false), 3, 2);
        isOrdinal(x, x.reckon(2, 0, false), 3, 2);
        isOrdinal(x, x.reckon(0, 3, true), 3, 4);
        isOrdinal(x, x.reckon(3, 0, true), 6, 2);
        isOrdinal(x, x.reckon(0, 1, true), 3, 8, 0, 5);
        isOrdinal(x, x.reckon(1, 0, true), 4, 0, 15, 2);
        isOrdinal(x, x.reckon(0, 2, true));
        isOrdinal(x, x.reckon(2, 0, true));
        due(x.ordinal(0, 0, 0, 1), 15);
        isOrdinal(x, x.reckon(15, 15, true), 0, 0, 0, 0, 0, 0, 1);
        fails(UNSUPPORTED, () -> x.reckon(16, 1, true));
        due(x.reckon(16, 0, true), 17);
        isOrdinal(x, 17, 0, 0, 0, 0, 0, 0, 3, 2);
        fails(BOUNDS, () -> x.reckon(18, 0, true));
        fails(BOUNDS, () -> x.reckon(0, 18, false));
        fails(BOUNDS, () -> x.reckon(-1, 0, false));
        x.ordinal(0, 0, 0, 0);
        x.ordinal(0, 0, 0, 0);
        fails(STATE, () -> x.reckon(0, 0, false));
        fails(STATE, () -> x.reckon(0, 0, true));
        fails(UNSUPPORTED, () -> x.reckon(16, 1, true));
        fails(BOUNDS, () -> x.reckon(20, 1, true));
        promise42Edge();
    }

    private static void promise42Edge() {
        Urelementary x = theatre();
        x.ordinal(999, 0, 0, 0);
        x.ordinal(100, 0, 0, 0);
        x.ordinal(99, 0, 0, 0);
        isOrdinal(x, x.reckon(0, 1, true), 99900);
        isOrdinal(x, x.reckon(3, 2, false), 99999);
        x.ordinal(1, 0, 0, 0);
        fails(UNSUPPORTED, () -> x.reckon(4, 5, false));
        fails(UNSUPPORTED, () -> x.reckon(5, 4, false));
        fails(UNSUPPORTED, () -> x.reckon(4, 4, true));
        isOrdinal(x, x.reckon(4, 5, true), 99999);
        x.ordinal(0, 1, 0, 0);
        isOrdinal(x, x.reckon(4, 7, false), 0, 1);
        isOrdinal(x, x.reckon(4, 7, true), 0, 1);
        fails(UNSUPPORTED, () -> x.reckon(4, 0, false));
        due(x.ordinal(7, 0, 0, 0), 10);
        Urelementary y = theatre();
        y.ordinal(3, 2, 0, 0);
        y.ordinal(0, 5, 0, 0);
        y.ordinal(0, 0, 0, 2);
        y.ordinal(1, 0, 0, 0);
        isOrdinal(y, y.reckon(0, 1, true), 0, 0, 5);
        isOrdinal(y, y.reckon(2, 2, true), 0, 0, 0, 0, 0, 0, 2);
        isOrdinal(y, y.reckon(5, 1, true), 0, 0, 0, 0, 0, 0, 0, 5);
        isOrdinal(y, y.reckon(5, 6, false), 0, 0, 0, 0, 0, 0, 0, 5);
        isOrdinal(y, y.reckon(6, 5, false), 0, 0, 0, 0, 0, 0, 2, 5);
        due(y.compare(6, 5), 1);
        due(y.compare(5, 6), -1);
        due(y.compare(8, 6), 1);
        fails(UNSUPPORTED, () -> y.reckon(6, 1, true));
        isOrdinal(y, y.reckon(8, 3, true), 0, 0, 0, 0, 0, 0, 2, 5);
        isOrdinal(y, y.reckon(8, 0, false), 3, 2, 0, 0, 0, 0, 2, 5);
        isOrdinal(y, y.row(8, 4), 0, 0, 0, 0, 0, 4, 1, 5);
        isOrdinal(y, y.row(6, 4), 0, 0, 0, 0, 0, 0, 4, 4);
    }

    private static void promise43() {
        Urelementary x = theatre();
        x.ordinal(0, 0, 2, 1);
        x.ordinal(0, 1, 0, 0);
        x.ordinal(1, 1, 0, 0);
        x.ordinal(0, 0, 0, 0);
        x.ordinal(0, 0, 0, 1);
        isOrdinal(x, x.row(0, 7), 0, 7, 1, 1);
        isOrdinal(x, x.row(1, 999), 999);
        isOrdinal(x, x.row(4, 0));
        isOrdinal(x, x.row(5, 1), 1, 6, 1, 1);
        fails(LACKING, () -> x.row(2, 0));
        fails(LACKING, () -> x.row(3, 0));
        fails(ARGUMENT, () -> x.row(0, 1000));
        fails(ARGUMENT, () -> x.row(2, -1));
        fails(BOUNDS, () -> x.row(9, 1000));
        fails(BOUNDS, () -> x.row(-1, 0));
        for (int i = 9; i < 20; i++) due(x.row(0, i), i);
        fails(STATE, () -> x.row(0, 0));
        fails(LACKING, () -> x.row(2, 0));
        fails(ARGUMENT, () -> x.row(2, 1000));
        fails(BOUNDS, () -> x.row(20, 0));
        isOrdinal(x, 0, 0, 0, 2, 1);
    }

    private static void promise44() {
        Urelementary x = theatre();
        due(x.implies(0, 1), true);
        due(x.implies(0, 1), false);
        due(x.implies(1, 2), true);
        due(x.implies(0, 2), false);
        due(x.implies(2, 0), true);
        due(x.implies(2, 1), false);
        fails(ARGUMENT, () -> x.implies(3, 3));
        fails(ARGUMENT, () -> x.implies(12, 0));
        fails(ARGUMENT, () -> x.implies(0, 12));
        fails(ARGUMENT, () -> x.implies(-1, 0));
        fails(ARGUMENT, () -> x.implies(0, -1));
        x.model(1 << 3, 1 << 4);
        due(x.implies(3, 5), true);
        due(x.implies(6, 4), true);
        fails(UNSUPPORTED, () -> x.implies(3, 4));
        fails(UNSUPPORTED, () -> x.implies(5, 6));
        due(x.known(5, 6), 'n');
        due(x.known(3, 6), 'n');
        due(x.implies(6, 5), true);
        due(x.implies(7, 0), true);
        due(x.known(7, 1), 'y');
    }

    private static void promise45() {
        Urelementary x = theatre();
        x.implies(0, 1);
        x.implies(1, 2);
        due(x.model(0, 0), 0);
        due(x.model(1 << 11, 1), 1);
        fails(ARGUMENT, () -> x.model(1 << 12, 0));
        fails(ARGUMENT, () -> x.model(0, 1 << 12));
        fails(ARGUMENT, () -> x.model(ALL_BITS, 0));
        fails(ARGUMENT, () -> x.model(3, Integer.MIN_VALUE | 3));
        fails(UNSUPPORTED, () -> x.model(1, 1));
        fails(UNSUPPORTED, () -> x.model(1, 4));
        due(x.model(4, 1), 2);
        for (int i = 3; i < 10; i++) due(x.model(0, 0), i);
        fails(STATE, () -> x.model(0, 0));
        fails(UNSUPPORTED, () -> x.model(1, 4));
        fails(ARGUMENT, () -> x.model(1 << 12, 4));
        due(x.known(2, 1), '-');
        due(x.known(2, 0), 'n');
        due(x.known(11, 0), 'n');
    }

    private static void promise46() {
        Urelementary x = theatre();
        due(x.known(0, 0), 'y');
        due(x.known(0, 1), '-');
        x.implies(0, 1);
        x.implies(1, 2);
        due(x.known(0, 2), 'y');
        due(x.known(2, 0), '-');
        x.model(1 << 2, 1 << 1);
        due(x.known(2, 1), 'n');
        due(x.known(2, 0), 'n');
        due(x.known(1, 0), '-');
        x.implies(2, 3);
        due(x.known(3, 0), 'n');
        due(x.known(3, 2), '-');
        x.implies(4, 0);
        due(x.known(3, 4), 'n');
        due(x.known(4, 3), 'y');
        fails(ARGUMENT, () -> x.known(12, 0));
        fails(ARGUMENT, () -> x.known(0, 12));
        fails(ARGUMENT, () -> x.known(-1, 0));
        fails(ARGUMENT, () -> x.known(0, -1));
    }

    private static void promise47() {
        Urelementary x = theatre();
        due(x.rule(0, 29, true), 0);
        due(x.rule((1 << 30) - 1, 0, false), 1);
        fails(ARGUMENT, () -> x.rule(1 << 30, 0, true));
        fails(ARGUMENT, () -> x.rule(ALL_BITS, 0, true));
        fails(ARGUMENT, () -> x.rule(0, 30, true));
        fails(ARGUMENT, () -> x.rule(0, -1, true));
        for (int i = 2; i < 40; i++) due(x.rule(1, 1, false), i);
        fails(STATE, () -> x.rule(0, 5, false));
        fails(ARGUMENT, () -> x.rule(0, 30, false));
        due(x.isProved(5, true), false);
        due(x.isProved(29, true), true);
        fails(BOUNDS, () -> x.isSpare(40));
    }

    private static void promise48() {
        Urelementary x = theatre();
        x.rule(0, 0, false);
        x.rule(1, 1, true);
        x.rule(2, 2, false);
        x.rule(1 << 4, 3, false);
        x.rule(1 << 3, 4, false);
        x.rule(1 | 1 << 5, 6, false);
        due(x.isProved(0, false), true);
        due(x.isProved(1, false), false);
        due(x.isProved(1, true), true);
        due(x.isProved(2, true), true);
        due(x.isProved(2, false), false);
        due(x.isProved(3, true), false);
        due(x.isProved(6, true), false);
        x.rule(0, 5, true);
        due(x.isProved(6, true), true);
        due(x.isProved(6, false), false);
        fails(ARGUMENT, () -> x.isProved(30, true));
        fails(ARGUMENT, () -> x.isProved(-1, false));
        Urelementary y = theatre();
        for (int i = 28; i >= 0; i--) y.rule(1 << i, i + 1, false);
        y.rule(0, 0, false);
        due(y.isProved(29, false), true);
    }

    private static void promise49() {
        Urelementary x = theatre();
        x.rule(0, 0, true);
        x.rule(1, 1, true);
        x.rule(3, 2, false);
        x.rule(6, 3, true);
        due(x.uses(0), 1);
        due(x.uses(1), 2);
        due(x.uses(2), 3);
        due(x.uses(3), 6);
        x.rule(0, 1, false);
        due(x.uses(1), 0);
        due(x.uses(2), 1);
        due(x.uses(3), 2);
        x.rule(1 << 4, 0, false);
        due(x.uses(0), 1);
        fails(LACKING, () -> x.uses(4));
        fails(ARGUMENT, () -> x.uses(30));
        fails(ARGUMENT, () -> x.uses(-1));
        Urelementary y = theatre();
        for (int i = 29; i >= 0; i--) y.rule((1 << i) - 1, i, true);
        due(y.uses(29), 1 << 29);
        due(y.uses(0), 1);
    }

    private static void promise50() {
        Urelementary x = theatre();
        x.rule(0, 0, false);
        x.rule(0, 0, true);
        x.rule(1, 1, true);
        x.rule(1 << 5, 6, false);
        due(x.isSpare(0), true);
        due(x.isSpare(1), true);
        due(x.isSpare(2), false);
        due(x.isSpare(3), true);
        fails(BOUNDS, () -> x.isSpare(4));
        fails(BOUNDS, () -> x.isSpare(-1));
        x.rule(0, 1, true);
        due(x.isSpare(2), true);
        x.rule(0, 5, false);
        due(x.isSpare(3), false);
    }

    private static void promise51() {
        Urelementary x = theatre();
        due(x.things(), 0);
        x.set(0);
        x.atom();
        due(x.things(), 2);
        x.sum(0);
        due(x.things(), 3);
        x.name();
        x.quotient(0, 0);
        due(x.things(), 3);
        while (x.things() < 28) x.set(0);
        due(x.things(), 28);
    }

    private static void promise52() {
        Urelementary x = theatre();
        due(x.knownShare(), 0f);
        x.implies(0, 1);
        due(x.knownShare(), (float) 1 / 132f);
        x.implies(1, 2);
        due(x.knownShare(), (float) 3 / 132f);
        x.model(1 << 2, 1);
        due(x.knownShare(), (float) 4 / 132f);
        x.model(1 << 3, 1 << 4);
        due(x.knownShare(), (float) 5 / 132f);
        Urelementary y = theatre();
        for (int i = 0; i < 12; i++) y.implies(i, (i + 1) % 12);
        due(y.knownShare(), 1f);
    }

    private static void promise53() {
        Urelementary x = theatre();
        fails(LACKING, x::meanSize);
        x.atom();
        fails(LACKING, x::meanSize);
        x.set(0);
        due(x.meanSize(), 0.0);
        x.set(3);
        due(x.meanSize(), 1.0);
        x.set(2);
        due(x.meanSize(), 1.0);
        x.put(1, 0);
        x.set(0);
        due(x.meanSize(), 1.0);
        x.set(1 << 4);
        due(x.meanSize(), 5.0 / 5.0);
        x.set(0);
        due(x.meanSize(), 5.0 / 6.0);
        x.put(6, 4);
        x.put(6, 6);
        due(x.meanSize(), 7.0 / 6.0);
    }

    private static void promise54() {
        Urelementary x = theatre();
        due(x.isSound(), true);
        x.atom();
        x.set(1);
        x.put(1, 1);
        x.set(3);
        x.algebra(4);
        for (int i = 0; i < 12; i++) x.name();
        for (int i = 1; i < 12; i++) for (int j = 0; j < i; j++) x.give(i, j, (i * 7 + j * 5) % 16);
        x.implies(0, 1);
        x.model(1, 4);
        x.quotient(5, 2);
        due(x.isSound(), true);
        fails(UNSUPPORTED, () -> x.implies(0, 2));
        due(x.isSound(), true);
    }

    public static void main(String[] args) {
        Runnable[] all = {PromisesTest::promise1, PromisesTest::promise2, PromisesTest::promise3, PromisesTest::promise4,
            PromisesTest::promise5, PromisesTest::promise6, PromisesTest::promise7, PromisesTest::promise8, PromisesTest::promise9,
            PromisesTest::promise10, PromisesTest::promise11, PromisesTest::promise12, PromisesTest::promise13, PromisesTest::promise14,
            PromisesTest::promise15, PromisesTest::promise16, PromisesTest::promise17, PromisesTest::promise18, PromisesTest::promise19,
            PromisesTest::promise20, PromisesTest::promise21, PromisesTest::promise22, PromisesTest::promise23, PromisesTest::promise24,
            PromisesTest::promise25, PromisesTest::promise26, PromisesTest::promise27, PromisesTest::promise28, PromisesTest::promise29,
            PromisesTest::promise30, PromisesTest::promise31, PromisesTest::promise32, PromisesTest::promise33, PromisesTest::promise34,
            PromisesTest::promise35, PromisesTest::promise36, PromisesTest::promise37, PromisesTest::promise38, PromisesTest::promise39,
            PromisesTest::promise40, PromisesTest::promise41, PromisesTest::promise42, PromisesTest::promise43, PromisesTest::promise44,
            PromisesTest::promise45, PromisesTest::promise46, PromisesTest::promise47, PromisesTest::promise48, PromisesTest::promise49,
            PromisesTest::promise50, PromisesTest::promise51, PromisesTest::promise52, PromisesTest::promise53, PromisesTest::promise54};
        for (int i = 0; i < all.length; i++) {
            promise = i + 1;
            try {
                all[i].run();
            } catch (RuntimeException e) {
                wrong++;
                System.out.println("promise " + promise + " ends with " + e + " at " + e.getStackTrace()[0] + ", " + e.getStackTrace()[1]);
            }
        }
        System.out.println(checks + " checks, " + wrong + " wrong");
        if (wrong != 0) System.exit(1);
    }
}
