import java.io.IOException;
import java.nio.charset.StandardCharsets;
import java.nio.file.Files;
import java.nio.file.Path;
import java.util.ArrayList;
import java.util.List;
import java.util.NoSuchElementException;
import java.util.TreeMap;
import java.util.TreeSet;

/**
 * Each sentence of the document that names a boundary has a test of its own here, under the sentence itself:
 * the last one taken and the first one refused, both ends and what is beyond them, what is empty or the same one,
 * each exception of each method and each pair of exceptions that can apply at once, and that a refused call
 * changes nothing. The sentences are looked up in ../shared/DOC.md, and none of these that it has may lack here.
 */
public final class EdgesTest {
    interface Scene { void make(Urelementary x); }

    interface Call { Object on(Urelementary x); }

    private static final Class<?> BOUNDS = IndexOutOfBoundsException.class;
    private static final Class<?> ARGUMENT = IllegalArgumentException.class;
    private static final Class<?> STATE = IllegalStateException.class;
    private static final Class<?> UNSUPPORTED = UnsupportedOperationException.class;
    private static final Class<?> LACKING = NoSuchElementException.class;
    private static final int LOWEST = Integer.MIN_VALUE;
    private static final int HIGHEST = Integer.MAX_VALUE;
    private static final int TERMS = 0;

    private static final TreeMap<Integer, List<String>> sections = new TreeMap<>();
    private static final TreeMap<Integer, List<String>> quoted = new TreeMap<>();
    private static final TreeSet<String> pairs = new TreeSet<>();
    private static int section = 0;
    private static String sentence = "";
    private static int wrong = 0;
    private static int checks = 0;
    private static int sentences = 0;

    // ---- how a sentence is weighed

    private static void tell(String what) {
        wrong++;
        int line = 0;
        for (StackTraceElement e : new Throwable().getStackTrace()) {
            if (e.getMethodName().startsWith("lambda") && line == 0) line = e.getLineNumber();
        }
        System.out.println((section == TERMS ? "terms" : "promise " + section) + ", \"" + sentence + "\", line " + line + ": " + what);
    }

    private static void edge(int number, String words, Runnable test) {
        section = number;
        sentence = words;
        sentences++;
        boolean stands = false;
        for (String line : sections.getOrDefault(number, List.of())) stands |= line.contains(words);
        if (!stands) tell("does not stand in the document");
        quoted.computeIfAbsent(number, key -> new ArrayList<>()).add(words);
        try {
            test.run();
        } catch (RuntimeException e) {
            tell("ends with " + e + " at " + e.getStackTrace()[0]);
        }
    }

    private static void due(Object want, Object got) {
        checks++;
        if (!want.equals(got)) tell("answered " + got + ", due is " + want);
    }

    private static Urelementary made(Scene scene) {
        Urelementary x = new Urelementary();
        scene.make(x);
        return x;
    }

    /** Each call throws just this exception, and all of them leave the theatre as one that they were not tried on. */
    private static void refuses(Class<?> exception, Scene scene, Call... calls) {
        Urelementary x = made(scene);
        for (Call call : calls) {
            checks++;
            try {
                tell("answered " + call.on(x) + ", due is " + exception.getSimpleName() + ", call " + List.of(calls).indexOf(call));
            } catch (RuntimeException e) {
                if (e.getClass() != exception) tell("throws " + e.getClass().getSimpleName() + ", due is " + exception.getSimpleName());
            }
        }
        checks++;
        if (!picture(x).equals(picture(made(scene)))) tell("a refused call changed something");
    }

    /** Both exceptions of a method apply to each of the calls: the one that is listed first is thrown. */
    private static void pair(int number, Class<?> first, Class<?> second, Scene scene, Call... calls) {
        section = number;
        sentence = first.getSimpleName() + " ahead of " + second.getSimpleName();
        pairs.add(number + " " + first.getSimpleName() + " " + second.getSimpleName());
        refuses(first, scene, calls);
    }

    /** Both exceptions can not apply at once. */
    private static void apart(int number, Class<?> first, Class<?> second, String why) {
        pairs.add(number + " " + first.getSimpleName() + " " + second.getSimpleName());
        if (why.isEmpty()) tell("without a reason");
    }

    private static String answer(Urelementary x, Call call) {
        try {
            return String.valueOf(call.on(x));
        } catch (RuntimeException e) {
            return e.getClass().getSimpleName();
        }
    }

    /** All that can be asked of a theatre, and at last what can be seen by changing it alone. */
    private static String picture(Urelementary x) {
        StringBuilder all = new StringBuilder();
        Call[] still = {Urelementary::things, Urelementary::fault, Urelementary::free, Urelementary::isBounded, Urelementary::isStratified,
            Urelementary::knownShare, Urelementary::meanSize, Urelementary::isSound};
        for (Call call : still) all.append(answer(x, call)).append(' ');
        pictureThings(x, all);
        pictureWorlds(x, all);
        pictureRest(x, all);
        int things = x.things();
        Call[] moving = {Urelementary::wipe, y -> y.world(1), y -> y.name(), y -> y.algebra(1), y -> y.tree(1, 0), y -> y.ordinal(0, 0, 0, 0),
            y -> y.model(0, 0), y -> y.rule(0, 0, false), Urelementary::atom, y -> y.set(0), Urelementary::things};
        if (things > 0) for (char v : "pqrst".toCharArray()) all.append(answer(x, y -> y.value(v, 0))).append(' ');
        for (Call call : moving) all.append(answer(x, call)).append(' ');
        return all.toString();
    }

    private static void pictureThings(Urelementary x, StringBuilder all) {
        int things = x.things();
        for (int i = 0; i <= things; i++) {
            int t = i;
            Call[] calls = {y -> y.size(t), y -> y.isFounded(t), y -> y.rank(t), y -> y.code(t), y -> y.inside(t), y -> y.isTransitive(t), y -> y.support(t)};
            for (Call call : calls) all.append(answer(x, call)).append(' ');
            for (int j = 0; j < things && t < things; j++) all.append(x.areEqual(t, j) ? '=' : '-').append(x.isElement(t, j) ? 'e' : '-');
        }
        all.append('\n');
    }

    private static void pictureWorlds(Urelementary x, StringBuilder all) {
        for (int i = 0; i < 9; i++) {
            int w = i;
            all.append(answer(x, y -> y.holds(w))).append(' ');
            for (char v : "pqrst".toCharArray()) all.append(answer(x, y -> y.satisfy(w, v))).append(' ').append(answer(x, y -> y.typeOf(v))).append(' ');
            for (char a : "xepuwfcn".toCharArray()) all.append(answer(x, y -> y.axiom(w, a))).append(' ');
            for (int j = 0; j < 9; j++) {
                int other = j;
                all.append(answer(x, y -> y.isAbsolute(w, other))).append(' ');
            }
        }
        all.append('\n');
    }

    private static void pictureRest(Urelementary x, StringBuilder all) {
        for (int i = 0; i < 13; i++) for (int j = 0; j < 13; j++) {
            int one = i;
            int other = j;
            all.append(answer(x, y -> y.valueOf(one, other, true))).append(' ').append(answer(x, y -> y.valueOf(one, other, false))).append(' ');
            all.append(answer(x, y -> y.known(one, other))).append(' ');
        }
        for (int i = 0; i < 13; i++) { int n = i; all.append(answer(x, y -> y.nameSupport(n))).append(' '); }
        for (int i = 0; i < 6; i++) for (int j = 0; j < 1 << i; j++) {
            int moves = i;
            int row = j;
            all.append(answer(x, y -> y.firstWins(moves, row))).append(' ').append(answer(x, y -> y.move(moves, row))).append(' ');
        }
        for (int i = 0; i < 21; i++) for (int j = 0; j < 8; j++) {
            int ordinal = i;
            int power = j;
            all.append(answer(x, y -> y.coefficient(ordinal, power))).append(' ');
        }
        for (int i = 0; i < 41; i++) {
            int n = i;
            all.append(answer(x, y -> y.isProved(n, true))).append(' ').append(answer(x, y -> y.isProved(n, false))).append(' ');
            all.append(answer(x, y -> y.uses(n))).append(' ').append(answer(x, y -> y.isSpare(n))).append(' ');
        }
        all.append('\n');
    }

    // ---- the document

    private static void readDocument() throws IOException {
        int number = -1;
        for (String line : Files.readString(Path.of("..", "shared", "DOC.md"), StandardCharsets.UTF_8).split("\n")) {
            if (line.startsWith("## ")) {
                number = line.equals("## Terms") || line.equals("## What it is") ? TERMS : -1;
                if (line.startsWith("## Promise ")) number = Integer.parseInt(line.substring(11, line.indexOf(':')));
            } else if (number >= 0 && !line.isBlank()) {
                sections.computeIfAbsent(number, key -> new ArrayList<>()).add(line.trim());
            }
        }
    }

    private static boolean isQuoted(int number, String words) {
        for (String each : quoted.getOrDefault(number, List.of())) if (words.contains(each) || each.contains(words)) return true;
        return false;
    }

    /** Words that tell of a number, of nothing, of the same one, or of a refusal. */
    private static boolean namesBoundary(String line) {
        return line.matches("(?s).*([0-9]|same one|itself|none|without|lowest|lesser|fewest|least|greatest|however|all |unlike|does not count|by its number|both|of an atom|otherwise).*");
    }

    private static void weighQuotes() {
        section = TERMS;
        sentence = "the sentences themselves";
        for (String paragraph : sections.get(TERMS)) {
            if (paragraph.startsWith("Ahead of the calls") || paragraph.startsWith("A theatre of set worlds")) continue;
            for (String each : paragraph.split("(?<=\\.) ")) {
                if (each.matches("[A-Z][a-z]+\\.")) continue;
                if (!isQuoted(TERMS, each)) tell("has no test: " + each);
            }
        }
        for (int number = 1; number <= 54; number++) {
            List<String> lines = sections.getOrDefault(number, List.of());
            if (lines.isEmpty()) tell("promise " + number + " lacks in the document");
            for (String line : lines) {
                boolean isDue = line.startsWith("Throws") || (line.startsWith("Returns") || line.startsWith("- ")) && namesBoundary(line);
                if (isDue && !isQuoted(number, line)) tell("promise " + number + " has no test: " + line);
            }
            weighPairs(number, lines);
        }
    }

    private static void weighPairs(int number, List<String> lines) {
        List<String> thrown = new ArrayList<>();
        for (String line : lines) if (line.startsWith("Throws `")) thrown.add(line.substring(8, line.indexOf('`', 8)));
        for (int i = 0; i < thrown.size(); i++) for (int j = i + 1; j < thrown.size(); j++) {
            String each = number + " " + thrown.get(i) + " " + thrown.get(j);
            if (!pairs.remove(each)) tell("no test of the pair " + each);
        }
        String left = pairs.ceiling(number + " ");
        if (left != null && left.startsWith(number + " ")) tell("no such pair: " + left);
    }

    // ---- scenes

    private static void nothing(Urelementary x) {
        x.wipe();
    }

    private static void write(Urelementary x, String text) {
        x.wipe();
        for (char sign : text.toCharArray()) x.type(sign);
    }

    private static int[] bad(int bound) {
        return new int[] {-1, bound, bound + 1, bound + 32, 64, 255, 256, 65536, LOWEST, LOWEST + 1, HIGHEST, -32, -bound - 1};
    }

    /** Masks with a place that is not below the bound, alone and beside one that is. */
    private static int[] badMasks(int bound) {
        return new int[] {1 << bound, 1 << bound | 1, 1 << 31, 1 << 31 | 1, -1, 1 << 30 | 1 << bound, (1 << bound + 1) - 1};
    }

    private static Call[] each(int[] numbers, java.util.function.IntFunction<Call> call) {
        Call[] calls = new Call[numbers.length];
        for (int i = 0; i < calls.length; i++) calls[i] = call.apply(numbers[i]);
        return calls;
    }

    /** Signs that are none of these, those among them that look like one of them in fewer bits. */
    private static char[] signsBut(String signs) {
        StringBuilder all = new StringBuilder();
        for (int c = 0; c < 400; c++) if (signs.indexOf(c) < 0) all.append((char) c);
        for (char c : signs.toCharArray()) all.append((char) (c + 256)).append((char) (c + 32768)).append((char) (c + 65280));
        return all.append((char) 65535).toString().toCharArray();
    }

    private static Call[] each(char[] signs, java.util.function.Function<Character, Call> call) {
        Call[] calls = new Call[signs.length];
        for (int i = 0; i < calls.length; i++) calls[i] = call.apply(signs[i]);
        return calls;
    }

    /** 0 = {}, 1 = {0}, 2 = {0, 1}, 3 = {1}, 4 an atom, 5 = {4}: six things. */
    private static void sixThings(Urelementary x) {
        x.set(0);
        x.set(1);
        x.set(3);
        x.set(2);
        x.atom();
        x.set(1 << 4);
    }

    /** 0, 1, 2, 3 atoms, 4 = {}, 5 = {{}}, and so on, 28 things. */
    private static void fullThings(Urelementary x) {
        for (int i = 0; i < 4; i++) x.atom();
        x.set(0);
        for (int i = 5; i < 28; i++) x.set(1 << i - 1);
    }

    /** Something of each kind, so that a change anywhere is seen: 7 things, 2 worlds, 3 names, 3 ordinals, 2 models, 4 rules. */
    private static void rich(Urelementary x) {
        x.set(0);
        x.atom();
        x.set(3);
        x.atom();
        x.set(0);
        x.put(4, 4);
        x.set(4 | 8);
        x.set(1);
        write(x, "Spq&perqes");
        x.value('p', 0);
        x.value('q', 2);
        x.value('r', 6);
        x.value('s', 5);
        x.world(127);
        x.world(5);
        x.algebra(3);
        for (int i = 0; i < 3; i++) x.name();
        x.give(1, 0, 5);
        x.give(2, 1, 3);
        x.give(2, 0, 6);
        x.tree(3, 0b10010110);
        x.ordinal(1, 2, 3, 4);
        x.ordinal(0, 0, 1, 0);
        x.ordinal(0, 0, 0, 0);
        x.implies(0, 1);
        x.implies(1, 2);
        x.model(1 << 3, 1 << 4);
        x.model(1 << 2, 1);
        x.rule(0, 0, false);
        x.rule(1, 1, true);
        x.rule(3, 2, true);
        x.rule(1 << 5, 6, false);
    }

    /** As many of each kind as there can be, and a formula of 40 signs. */
    private static void full(Urelementary x) {
        fullThings(x);
        write(x, "!".repeat(37) + "peq");
        x.value('p', 4);
        x.value('q', 5);
        for (int i = 0; i < 8; i++) x.world((1 << 20 + i) - 1);
        x.algebra(4);
        for (int i = 0; i < 12; i++) x.name();
        for (int i = 1; i < 12; i++) x.give(i, i - 1, i + 3);
        x.give(11, 0, 8);
        x.tree(5, 0x8421_8421);
        for (int i = 0; i < 20; i++) x.ordinal(0, i, 999 - i, i);
        for (int i = 0; i < 10; i++) x.model(1 << i, 1 << i + 1);
        for (int i = 0; i < 40; i++) x.rule(i < 30 ? (1 << i) - 1 : 1 << i - 30, i % 30, i % 3 == 0);
    }

    // ---- terms: things

    private static void termsOfThings() {
        edge(TERMS, "An object is used for at most 512 calls after it has been made; what later calls answer is free.", () -> {
            Urelementary x = new Urelementary();
            x.set(0);
            for (int i = 1; i < 511; i++) due(i == 1, x.put(0, 0));
            due(true, x.isElement(0, 0));
            Urelementary y = new Urelementary();
            for (int i = 0; i < 256; i++) {
                due(i % 40 + 1, y.type('!'));
                if (i % 40 == 39) due(40, y.wipe());
            }
            due(16, y.fault());
        });
        edge(TERMS, "What has a value at a point is true in the quotient at this point; a name has its support.", () -> {
            Urelementary x = made(EdgesTest::rich);
            for (int one = 0; one < 3; one++) for (int other = 0; other < 3; other++) for (int point = 0; point < 3; point++) {
                int a = x.quotient(one, point);
                int b = x.quotient(other, point);
                due(x.areEqual(a, b), (x.valueOf(one, other, false) >> point & 1) == 1);
                due(x.isElement(a, b), (x.valueOf(one, other, true) >> point & 1) == 1);
                due(!x.areEqual(a, x.quotient(one, 0)), (x.nameSupport(one) >> point & 1) == 1);
            }
        });
        edge(TERMS, "At most 28 things are numbered from 0", () -> {
            Urelementary x = made(EdgesTest::fullThings);
            due(28, x.things());
            due((1 << 27) - 16, x.inside(27));
            refuses(STATE, EdgesTest::fullThings, y -> y.set(0), y -> y.atom(), y -> y.sum(27), y -> y.sum(4));
            Call[] last = {y -> y.set(0), y -> y.atom(), y -> y.sum(26), y -> y.set((1 << 27) - 1)};
            for (Call call : last) {
                Urelementary y = new Urelementary();
                for (int i = 0; i < 27; i++) due(i, y.set(0));
                due(27, call.on(y));
                due(28, y.things());
            }
        });
        edge(TERMS, "atoms, 4 at most", () -> {
            Urelementary x = new Urelementary();
            for (int i = 0; i < 4; i++) {
                due(2 * i, x.set(0));
                due(2 * i + 1, x.atom());
            }
            Scene four = y -> { for (int i = 0; i < 4; i++) y.atom(); };
            refuses(STATE, four, y -> y.atom());
            due(4, made(four).set(15));
        });
        edge(TERMS, "or sets, whose elements are things", () -> {
            Urelementary x = new Urelementary();
            due(0, x.atom());
            due(1, x.set(0));
            due(2, x.set(3));
            due(3, x.set(7));
            due(7, x.inside(3));
            due(3, x.size(3));
        });
        edge(TERMS, "A set can get elements later, itself too.", () -> {
            Urelementary x = new Urelementary();
            x.set(0);
            x.set(1);
            x.set(0);
            due(true, x.areEqual(0, 2));
            due(1, x.rank(1));
            due(true, x.put(0, 0));
            due(true, x.isElement(0, 0));
            due(false, x.areEqual(0, 2));
            due(true, x.areEqual(0, 1));
            due(false, x.isFounded(1));
            Urelementary y = made(EdgesTest::fullThings);
            due(true, y.put(4, 27));
            due(true, y.put(27, 27));
            due((1 << 28) - 16, y.inside(4));
        });
        termsOfEquality();
        termsOfRanks();
    }

    private static void termsOfEquality() {
        edge(TERMS, "Two things are equal if nothing tells them apart: two atoms only if they are the same one", () -> {
            Urelementary x = made(EdgesTest::fullThings);
            for (int i = 0; i < 4; i++) for (int j = 0; j < 4; j++) due(i == j, x.areEqual(i, j));
        });
        edge(TERMS, "an atom and a set never", () -> {
            Urelementary x = made(EdgesTest::sixThings);
            for (int i = 0; i < 6; i++) {
                due(i == 4, x.areEqual(i, 4));
                due(i == 4, x.areEqual(4, i));
            }
        });
        edge(TERMS, "of two equal sets, each element of either one equals an element of the other one", () -> {
            Urelementary x = made(EdgesTest::sixThings);
            x.set(0);
            x.set(1 << 6);
            x.set(1 << 6 | 1);
            due(true, x.areEqual(7, 1));
            due(true, x.areEqual(8, 1));
            due(false, x.areEqual(8, 2));
            due(false, x.areEqual(2, 3));
            due(false, x.areEqual(0, 1));
            x.put(7, 1);
            due(true, x.areEqual(7, 2));
            due(false, x.areEqual(7, 1));
        });
        edge(TERMS, "and things are equal as far as this allows", () -> {
            Urelementary x = new Urelementary();
            for (int i = 0; i < 28; i++) x.set(0);
            for (int i = 0; i < 28; i++) x.put(i, (i + 1) % 28);
            for (int i = 0; i < 28; i++) due(true, x.areEqual(i, 27 - i));
            due(1, x.size(5));
            x.put(13, 14);
            due(true, x.areEqual(0, 27));
            Urelementary y = new Urelementary();
            for (int i = 0; i < 28; i++) y.set(0);
            for (int i = 0; i < 27; i++) y.put(i, i + 1);
            for (int i = 0; i < 28; i++) for (int j = 0; j < 28; j++) due(i == j, y.areEqual(i, j));
            y.put(27, 27);
            for (int i = 0; i < 28; i++) due(true, y.areEqual(i, 27));
        });
        edge(TERMS, "An element of a set is any thing that equals one of its elements.", () -> {
            Urelementary x = made(EdgesTest::sixThings);
            x.set(0);
            due(true, x.isElement(6, 1));
            due(true, x.isElement(6, 2));
            due(false, x.isElement(6, 3));
            due(true, x.put(1, 6));
            due(1, x.size(1));
            x.put(6, 6);
            due(false, x.isElement(6, 2));
            due(true, x.isElement(6, 1));
            Urelementary y = told(0, 2);
            due(6, y.set(0));
            y.world(127);
            y.value('p', 6);
            write(y, "peq");
            due(true, y.holds(1));
            due(true, y.put(6, 6));
            due(false, y.holds(1));
            due(true, y.isElement(0, 2));
        });
    }

    private static void termsOfRanks() {
        edge(TERMS, "A thing is founded if no row of things, each an element of the one ahead of it, goes on from it for ever.", () -> {
            Urelementary x = made(EdgesTest::fullThings);
            for (int i = 0; i < 28; i++) due(true, x.isFounded(i));
            x.put(16, 27);
            for (int i = 0; i < 28; i++) due(i < 16, x.isFounded(i));
            Urelementary y = made(EdgesTest::sixThings);
            y.put(3, 3);
            for (int i = 0; i < 6; i++) due(i != 3, y.isFounded(i));
        });
        edge(TERMS, "The rank of an atom, or of a set without elements, is 0, of another founded set 1 more than the greatest rank of its elements.", () -> {
            Urelementary x = made(EdgesTest::fullThings);
            for (int i = 0; i < 4; i++) due(0, x.rank(i));
            for (int i = 4; i < 28; i++) due(i - 4, x.rank(i));
            Urelementary y = made(EdgesTest::sixThings);
            due(1, y.rank(5));
            due(6, y.set(1 << 5 | 1 << 3 | 1));
            due(3, y.rank(6));
        });
        edge(TERMS, "The code of a set that is founded and has no atoms in it, however deep, is the sum of 2 to the power of the codes of its unlike elements.", () -> {
            Urelementary x = made(EdgesTest::sixThings);
            due(0L, x.code(0));
            due(1L, x.code(1));
            due(3L, x.code(2));
            due(2L, x.code(3));
            due(6, x.set(0));
            due(7, x.set(1 << 6 | 1 | 1 << 3));
            due(5L, x.code(7));
            due(8, x.set(1 << 5));
            due(9, x.set(1 << 8));
            refuses(LACKING, y -> { sixThings(y); y.set(1 << 5); y.set(1 << 6); }, y -> y.code(4), y -> y.code(5), y -> y.code(6), y -> y.code(7));
        });
        edge(TERMS, "Inside a thing are its elements, theirs, and so on.", () -> {
            Urelementary x = made(EdgesTest::sixThings);
            due(0, x.inside(0));
            due(0, x.inside(4));
            due(3, x.inside(3));
            due(6, x.set(1 << 3 | 1 << 5));
            due(1 | 2 | 1 << 3 | 1 << 4 | 1 << 5, x.inside(6));
            x.put(0, 6);
            due(1 | 2 | 1 << 3 | 1 << 4 | 1 << 5 | 1 << 6, x.inside(6));
        });
        edge(TERMS, "A set is transitive if each element of an element of it is an element of it; so is each atom.", () -> {
            Urelementary x = made(EdgesTest::sixThings);
            boolean[] want = {true, true, true, false, true, true};
            for (int i = 0; i < 6; i++) due(want[i], x.isTransitive(i));
            x.put(3, 0);
            due(true, x.isTransitive(3));
            x.put(5, 5);
            due(true, x.isTransitive(5));
            x.put(5, 3);
            due(false, x.isTransitive(5));
        });
    }

    // ---- terms: formulas

    /** Whether the formula holds in the world 0. */
    private static void weighs(Urelementary x, String text, boolean want) {
        write(x, text);
        checks++;
        if (x.fault() != -1) tell("'" + text + "' is no formula, its fault is " + x.fault());
        else if (x.holds(0) != want) tell("'" + text + "' is not " + want);
    }

    private static void faults(String text, int want) {
        Urelementary x = new Urelementary();
        write(x, text);
        checks++;
        if (x.fault() != want) tell("'" + text + "' has the fault " + x.fault() + ", due is " + want);
    }

    private static Urelementary told(int p, int q) {
        Urelementary x = made(EdgesTest::sixThings);
        x.world(63);
        x.value('p', p);
        x.value('q', q);
        return x;
    }

    private static void termsOfFormulas() {
        edge(TERMS, "A formula is a text of at most 40 signs, typed one by one.", () -> {
            Urelementary x = told(4, 0);
            weighs(x, "!".repeat(38) + "ap", true);
            due(1, x.free());
            refuses(STATE, y -> write(y, "!".repeat(38) + "ap"), y -> y.type('p'), y -> y.type('!'), y -> y.type('S'));
            weighs(x, "!".repeat(37) + "ap", false);
            due(40, x.type('p'));
            due(39, x.fault());
            refuses(STATE, y -> write(y, "!".repeat(39) + "a"), y -> y.type('p'));
            faults("!".repeat(39) + "a", 40);
            faults("!".repeat(40), 40);
            faults("", 0);
            refuses(ARGUMENT, EdgesTest::nothing, y -> y.free(), y -> y.isBounded(), y -> y.isStratified(), y -> y.typeOf('p'));
        });
        edge(TERMS, "Variables are p, q, r, s and t.", () -> {
            Urelementary x = told(0, 0);
            String all = "pqrst";
            for (int i = 0; i < 5; i++) {
                write(x, "a" + all.charAt(i));
                due(1 << i, x.free());
                due(1, x.satisfy(0, all.charAt(i)));
                due(i < 2 ? 0 : -1, x.value(all.charAt(i), 3));
                due(3, x.value(all.charAt(i), 0));
            }
            refuses(ARGUMENT, EdgesTest::rich, y -> y.type('o'), y -> y.type('u'), y -> y.type('P'), y -> y.type('T'), y -> y.type('x'));
        });
        termsOfKinds();
        edge(TERMS, "The second one of B or S is the one around it, also if it is the same.", () -> {
            Urelementary x = told(5, 1);
            weighs(x, "Bppap", true);
            weighs(x, "Sppap", true);
            weighs(x, "Bqqaq", false);
            weighs(x, "Sqqaq", false);
            weighs(x, "SppBpp!p=p", true);
            x.value('p', 2);
            weighs(x, "SppSppp=p", true);
            weighs(x, "SppSppSppp=p", false);
            write(x, "Bppap");
            due(3, x.satisfy(0, 'p'));
            write(x, "Bpp!ap");
            due(5, x.satisfy(0, 'p'));
            write(x, "SppSppp=p");
            due(2, x.satisfy(0, 'p'));
            x.put(0, 1);
            write(x, "Bppap");
            due(2, x.satisfy(0, 'p'));
            write(x, "Bppap");
            due(1, x.free());
            write(x, "ApBppap");
            due(0, x.free());
        });
        edge(TERMS, "A variable that no A, E, B or S around it names is free.", () -> {
            String[] texts = {"p=p", "Apap", "Epap", "Bpqap", "Spqap", "Bppap", "Sttat", "&apApap", "&Apapap", "Apaq", "ApEqBrqSsr&&peqres!t=t", "AqBpqaq",
                "!Ar!ar", "BpqBqpBpqap", "ApBpqBqrap", "&per&sesat"};
            int[] free = {1, 0, 0, 2, 2, 1, 16, 1, 1, 2, 16, 0, 0, 2, 6, 29};
            Urelementary x = new Urelementary();
            for (int i = 0; i < texts.length; i++) {
                write(x, texts[i]);
                checks++;
                if (x.free() != free[i]) tell("'" + texts[i] + "' has the free variables " + x.free());
            }
        });
        termsOfFaults();
        termsOfTypes();
    }

    private static void termsOfKinds() {
        edge(TERMS, "a variable, e and a variable, the first is an element of the second one", () -> {
            weighs(told(0, 1), "peq", true);
            weighs(told(1, 0), "peq", false);
            weighs(told(1, 1), "peq", false);
            weighs(told(4, 5), "peq", true);
            weighs(told(5, 4), "peq", false);
            weighs(told(1, 2), "pep", false);
            Urelementary x = told(3, 3);
            x.put(3, 3);
            weighs(x, "pep", true);
            weighs(x, "peq", true);
            x.put(0, 0);
            write(x, "pep");
            due(4, x.satisfy(0, 'p'));
            x.put(0, 4);
            due(2, x.satisfy(0, 'p'));
            weighs(x, "Eppep", true);
            weighs(x, "Ap!pep", false);
            x.world(1 | 1 << 2 | 1 << 4);
            due(false, x.holds(1));
            write(x, "pep");
            due(1, x.satisfy(1, 'p'));
        });
        edge(TERMS, "a variable, = and a variable, they are equal", () -> {
            weighs(told(0, 1), "p=q", false);
            weighs(told(4, 4), "p=q", true);
            weighs(told(4, 4), "p=p", true);
            Urelementary x = told(0, 1);
            x.put(0, 0);
            x.put(1, 1);
            weighs(x, "p=q", true);
        });
        edge(TERMS, "a and a variable, it is an atom", () -> {
            for (int i = 0; i < 6; i++) weighs(told(i, 0), "ap", i == 4);
        });
        edge(TERMS, "! and a formula, it does not hold", () -> {
            weighs(told(4, 0), "!ap", false);
            weighs(told(0, 0), "!ap", true);
            weighs(told(0, 0), "!!ap", false);
        });
        edge(TERMS, "& or |, and two formulas, both, or one at least, hold", () -> {
            int[] things = {0, 4};
            for (int p : things) for (int q : things) {
                weighs(told(p, q), "&apaq", p == 4 && q == 4);
                weighs(told(p, q), "|apaq", p == 4 || q == 4);
            }
        });
        edge(TERMS, "A or E, a variable and a formula, it holds for all things of the world, or for some", () -> {
            Urelementary x = made(EdgesTest::sixThings);
            x.world(1 << 4);
            weighs(x, "Apap", true);
            weighs(x, "Epap", true);
            weighs(x, "Ep!ap", false);
            Urelementary y = told(0, 0);
            weighs(y, "Apap", false);
            weighs(y, "Epap", true);
            weighs(y, "Ap!pep", true);
            weighs(y, "Appep", false);
            weighs(y, "Aqpep", false);
            weighs(y, "Eq!pep", true);
        });
        edge(TERMS, "B or S, two variables and a formula, it holds for all things of the world that are elements of the second one, or for some, as values of the first one", () -> {
            Urelementary x = told(0, 2);
            weighs(x, "BrqEsres", true);
            weighs(x, "Brqrep", false);
            weighs(x, "Srqper", true);
            weighs(x, "Brp!r=r", true);
            weighs(x, "Srpr=r", false);
            weighs(told(4, 0), "Brp!r=r", true);
            weighs(told(4, 0), "Srpr=r", false);
            Urelementary y = made(EdgesTest::sixThings);
            y.world(2);
            y.value('p', 1);
            weighs(y, "Brp!r=r", true);
            weighs(y, "Srpr=r", false);
            Urelementary z = told(3, 5);
            z.value('t', 0);
            for (String inner : new String[] {"t=t", "EtEs&tessep", "EsArs=r"}) {
                boolean holds = !inner.equals("EsArs=r");
                weighs(z, "Srp" + inner, holds);
                weighs(z, "Brp!" + inner, !holds);
                weighs(z, "Srq" + inner, holds);
                weighs(z, "EsSrp&s=s" + inner, holds);
                weighs(z, "EqSrp&q=r" + inner, holds);
            }
        });
    }

    private static void termsOfFaults() {
        edge(TERMS, "The fault of a text is the place of the first sign that cannot stand there, or its length, if more must come.", () -> {
            String starts = "pqrsta!&|AEBS";
            for (char c : "pqrste=a!&|AEBS".toCharArray()) {
                faults("" + c, starts.indexOf(c) >= 0 ? 1 : 0);
                faults("p" + c, "e=".indexOf(c) >= 0 ? 2 : 1);
                faults("pe" + c, "pqrst".indexOf(c) >= 0 ? -1 : 2);
                faults("t=" + c, "pqrst".indexOf(c) >= 0 ? -1 : 2);
                faults("a" + c, "pqrst".indexOf(c) >= 0 ? -1 : 1);
                faults("ap" + c, 2);
                faults("!" + c, starts.indexOf(c) >= 0 ? 2 : 1);
                faults("A" + c, "pqrst".indexOf(c) >= 0 ? 2 : 1);
                faults("Ep" + c, starts.indexOf(c) >= 0 ? 3 : 2);
                faults("B" + c, "pqrst".indexOf(c) >= 0 ? 2 : 1);
                faults("Sp" + c, "pqrst".indexOf(c) >= 0 ? 3 : 2);
                faults("Bpq" + c, starts.indexOf(c) >= 0 ? 4 : 3);
                faults("&" + c, starts.indexOf(c) >= 0 ? 2 : 1);
                faults("|ap" + c, starts.indexOf(c) >= 0 ? 4 : 3);
                faults("&apaq" + c, 5);
            }
            faults("pppppp", 1);
            faults("e", 0);
            faults("&".repeat(13) + "ap".repeat(13), 39);
            faults("&".repeat(12) + "ap".repeat(13), -1);
            faults("&".repeat(12) + "ap".repeat(14), 38);
            faults("&".repeat(40), 40);
            faults("A".repeat(40), 1);
            faults("Ap".repeat(20), 40);
            faults("Ap".repeat(19) + "ap", -1);
        });
    }

    private static void types(String text, String want) {
        Urelementary x = new Urelementary();
        write(x, text);
        StringBuilder got = new StringBuilder();
        for (char v : "pqrst".toCharArray()) {
            String each = answer(x, y -> y.typeOf(v));
            got.append(each.equals("NoSuchElementException") ? "-" : each);
        }
        checks++;
        if (!want.contentEquals(got)) tell("'" + text + "' has the types " + got + ", due are " + want);
        boolean isStratified = !want.equals("-----");
        checks++;
        if (x.isStratified() != isStratified) tell("'" + text + "' is not weighed as " + isStratified);
    }

    private static void termsOfTypes() {
        edge(TERMS, "A formula is stratified if each variable can have a type, a whole number, so that with e that of the second one is 1 more than that of the first one", () -> {
            types("peq", "01---");
            types("qep", "10---");
            types("pep", "-----");
            types("&peqqep", "-----");
            types("&peq&qerres", "0123-");
            types("&peq&qerrep", "-----");
            types("&peq&qerper", "-----");
        });
        edge(TERMS, "with = both are alike", () -> {
            types("p=q", "00---");
            types("p=p", "0----");
            types("&p=qpeq", "-----");
            types("&p=q&qerr=s", "0011-");
        });
        edge(TERMS, "and with B or S that of the second one is 1 more than that of the first one", () -> {
            types("Bpqap", "01---");
            types("Sqpaq", "10---");
            types("Bppap", "-----");
            types("Spqqep", "-----");
            types("BpqSqrBrsSst!at", "01234");
        });
        edge(TERMS, "the same letter has the same type wherever it stands", () -> {
            types("&ApEqpeqApEqqep", "-----");
            types("&ApEqpeqApEqpeq", "01---");
            types("|Aprepqep", "100--");
            types("&Apap&BpqapBqpaq", "-----");
        });
        edge(TERMS, "The type of a variable that stands anywhere in it, behind a quantifier alone, too, is the least one of 0 or more by which all that hang together with it, by such pairs, have 0 or more.", () -> {
            types("Apaq", "00---");
            types("Arpeq", "010--");
            types("EtAsp=q", "00-00");
            types("&peqres", "0101-");
            types("&&peqresqes", "0112-");
            types("&tes&ser&reqqep", "43210");
            types("&peq&qerset", "01201");
            types("ap", "0----");
        });
    }

    // ---- terms: worlds and axioms

    private static void termsOfWorlds() {
        edge(TERMS, "At most 8 worlds are numbered from 0", () -> {
            Urelementary x = made(EdgesTest::sixThings);
            for (int i = 0; i < 8; i++) due(i, x.world(i < 6 ? 1 << i : 63));
            refuses(STATE, EdgesTest::full, y -> y.world(1), y -> y.world((1 << 28) - 1));
        });
        edge(TERMS, "each of some things, unlike or not", () -> {
            Urelementary x = new Urelementary();
            for (int i = 0; i < 28; i++) x.set(0);
            due(0, x.world((1 << 28) - 1));
            due(1, x.world(1 << 27));
            write(x, "p=p");
            due(28, x.satisfy(0, 'p'));
            due(1, x.satisfy(1, 'p'));
            write(x, "EpEq!p=q");
            due(false, x.holds(0));
        });
        edge(TERMS, "A formula is weighed in a world with its things alone, the free variables having told values in it.", () -> {
            Urelementary x = made(EdgesTest::sixThings);
            x.world(1 | 1 << 2);
            x.world(63);
            weighs(x, "EpEqpeq", true);
            weighs(x, "EpEqEr&peqqer", false);
            due(true, x.holds(1));
            write(x, "peq");
            x.value('p', 0);
            x.value('q', 1);
            due("UnsupportedOperationException", answer(x, y -> y.holds(0)));
            due(true, x.holds(1));
            x.value('q', 2);
            due(true, x.holds(0));
        });
        edge(TERMS, "It is absolute between a world and another one that has all its things, if, whatever things of the first one its free variables are, it holds in both or in none.", () -> {
            Urelementary x = made(EdgesTest::sixThings);
            x.world(1);
            x.world(3);
            x.world(63);
            String[] texts = {"peq", "Eqpeq", "Aq!qep", "Epap", "Bpq!ap", "ApEqpeq", "Eq!q=p", "SpqSrp!r=r"};
            boolean[][] want = {{true, true, true}, {false, false, false}, {true, true, true}, {true, false, false}, {true, true, true},
                {true, true, true}, {false, false, true}, {true, true, true}};
            for (int i = 0; i < texts.length; i++) {
                write(x, texts[i]);
                for (int w = 0; w < 3; w++) due(true, x.isAbsolute(w, w));
                boolean[] got = {x.isAbsolute(0, 1), x.isAbsolute(0, 2), x.isAbsolute(1, 2)};
                for (int k = 0; k < 3; k++) if (got[k] != want[i][k]) tell("'" + texts[i] + "' is not weighed as " + want[i][k] + " at " + k);
            }
            refuses(UNSUPPORTED, y -> { sixThings(y); y.world(3); y.world(1); y.world(2); write(y, "p=p"); },
                y -> y.isAbsolute(0, 1), y -> y.isAbsolute(1, 2), y -> y.isAbsolute(2, 1), y -> y.isAbsolute(0, 2));
        });
    }

    /** Whether an axiom holds in a world of just these things. */
    private static void axiomIs(Scene scene, int things, char axiom, boolean want) {
        Urelementary x = made(scene);
        x.world(things);
        checks++;
        if (x.axiom(0, axiom) != want) tell("'" + axiom + "' in the world " + Integer.toBinaryString(things) + " is not " + want);
    }

    private static void termsOfAxioms() {
        edge(TERMS, "Axioms, for the things of a world, sets and elements in it alone: 'x' two sets with equal elements are equal", () -> {
            axiomIs(EdgesTest::sixThings, 1, 'x', true);
            axiomIs(EdgesTest::sixThings, 1 << 4, 'x', true);
            axiomIs(EdgesTest::sixThings, 63, 'x', true);
            axiomIs(EdgesTest::sixThings, 1 | 1 << 3, 'x', false);
            axiomIs(EdgesTest::sixThings, 1 | 1 << 4, 'x', true);
            axiomIs(EdgesTest::sixThings, 1 | 1 << 4 | 1 << 5, 'x', true);
            axiomIs(EdgesTest::sixThings, 1 | 1 << 5, 'x', false);
            axiomIs(x -> { sixThings(x); x.set(0); }, 1 | 1 << 6, 'x', true);
            axiomIs(x -> { sixThings(x); x.set(1); x.set(0); x.set(1 << 7); }, 1 | 2 | 1 << 6 | 1 << 7 | 1 << 8, 'x', true);
        });
        edge(TERMS, "'e' there is a set without elements", () -> {
            axiomIs(EdgesTest::sixThings, 1, 'e', true);
            axiomIs(EdgesTest::sixThings, 2, 'e', true);
            axiomIs(EdgesTest::sixThings, 1 << 4, 'e', false);
            axiomIs(EdgesTest::sixThings, 1 << 4 | 1 << 5, 'e', false);
            axiomIs(x -> { x.set(0); x.put(0, 0); }, 1, 'e', false);
        });
        edge(TERMS, "'p' for any two things, also one and itself, there is a set that has just these", () -> {
            axiomIs(x -> { x.set(0); x.put(0, 0); }, 1, 'p', true);
            axiomIs(x -> { x.set(0); x.put(0, 0); x.set(1); }, 3, 'p', true);
            axiomIs(EdgesTest::sixThings, 1, 'p', false);
            axiomIs(EdgesTest::sixThings, 1 << 4, 'p', false);
            axiomIs(EdgesTest::sixThings, 63, 'p', false);
            Scene pair = x -> { x.set(0); x.set(0); x.set(0); x.put(0, 1); x.put(1, 0); x.put(1, 1); x.put(2, 0); };
            axiomIs(pair, 7, 'p', true);
            Scene loops = x -> { x.atom(); x.set(0); x.set(0); x.put(1, 1); x.put(1, 0); x.put(2, 1); };
            axiomIs(loops, 6, 'p', false);
            axiomIs(loops, 2, 'p', true);
            Scene both = x -> { x.atom(); x.set(1); x.set(0); x.set(0); x.put(2, 1); x.put(2, 2); x.put(3, 2); };
            axiomIs(both, 12, 'p', false);
            axiomIs(both, 14, 'p', false);
            axiomIs(both, 4, 'p', true);
        });
        edge(TERMS, "'u' for each set there is one that has just the elements of its elements", () -> {
            axiomIs(EdgesTest::sixThings, 1, 'u', true);
            axiomIs(EdgesTest::sixThings, 1 << 4, 'u', true);
            axiomIs(EdgesTest::sixThings, 7, 'u', true);
            axiomIs(EdgesTest::sixThings, 63, 'u', true);
            axiomIs(EdgesTest::sixThings, 1 << 4 | 1 << 5, 'u', false);
            axiomIs(x -> { x.set(0); x.set(1); x.set(2); x.set(4); }, 13, 'u', true);
            axiomIs(x -> { x.set(0); x.set(0); x.put(1, 1); x.put(1, 0); x.set(2); }, 7, 'u', true);
            axiomIs(x -> { x.set(0); x.set(1); x.set(2); x.set(6); x.set(8); }, 31 & ~8, 'u', true);
            axiomIs(x -> { x.set(0); x.set(1); x.set(2); x.set(6); x.set(8); }, 30, 'u', true);
            axiomIs(x -> { x.atom(); x.set(1); x.set(2); x.set(4); }, 15, 'u', false);
            axiomIs(x -> { x.set(0); x.atom(); x.put(0, 1); }, 3, 'u', false);
            axiomIs(x -> { x.set(0); x.atom(); x.put(0, 0); x.put(0, 1); x.set(1); }, 7, 'u', true);
            axiomIs(x -> { for (int i = 0; i < 27; i++) x.set(0); x.atom(); x.put(0, 26); x.put(26, 27); }, 1 | 1 << 26 | 1 << 27, 'u', false);
        });
        termsOfHarderAxioms();
    }

    private static void termsOfHarderAxioms() {
        edge(TERMS, "'w' for each set there is one that has just the sets all of whose elements are elements of it", () -> {
            axiomIs(EdgesTest::sixThings, 1 << 4, 'w', true);
            axiomIs(EdgesTest::sixThings, 1, 'w', false);
            axiomIs(EdgesTest::sixThings, 7, 'w', false);
            axiomIs(x -> { x.set(0); x.put(0, 0); }, 1, 'w', true);
            axiomIs(x -> { x.set(0); x.put(0, 0); x.atom(); x.put(0, 1); }, 1, 'w', true);
            axiomIs(x -> { x.set(0); x.put(0, 0); x.atom(); x.put(0, 1); }, 3, 'w', false);
            axiomIs(x -> { x.set(0); x.set(1); x.put(1, 1); }, 3, 'w', false);
            axiomIs(x -> { x.set(0); x.set(0); x.put(0, 1); x.put(1, 0); x.put(1, 1); }, 3, 'w', true);
        });
        edge(TERMS, "'f' each set with elements has one that is an atom, or a set without an element in common with it", () -> {
            axiomIs(EdgesTest::sixThings, 1, 'f', true);
            axiomIs(EdgesTest::sixThings, 63, 'f', true);
            axiomIs(x -> { x.set(0); x.put(0, 0); }, 1, 'f', false);
            axiomIs(x -> { x.set(0); x.put(0, 0); x.atom(); x.put(0, 1); }, 3, 'f', true);
            axiomIs(x -> { x.set(0); x.put(0, 0); x.atom(); x.put(0, 1); }, 1, 'f', false);
            axiomIs(x -> { x.set(0); x.put(0, 0); x.set(0); x.put(0, 1); }, 3, 'f', true);
            axiomIs(x -> { x.set(0); x.set(0); x.put(0, 1); x.put(1, 0); x.atom(); x.put(0, 2); }, 3, 'f', true);
            axiomIs(x -> { x.set(0); x.set(0); x.put(0, 1); x.put(1, 0); }, 3, 'f', false);
            axiomIs(x -> { x.set(0); x.put(0, 0); x.set(1); }, 2, 'f', false);
            axiomIs(x -> { x.set(0); x.put(0, 0); x.atom(); x.set(3); }, 4, 'f', true);
        });
        edge(TERMS, "'c' for each set of sets that have elements, no two unlike ones of them with a common one, there is a set that has just one element in common with each of them", () -> {
            axiomIs(EdgesTest::sixThings, 1, 'c', true);
            axiomIs(EdgesTest::sixThings, 1 << 4, 'c', true);
            axiomIs(EdgesTest::sixThings, 63, 'c', true);
            Scene family = x -> { x.atom(); x.atom(); x.set(1); x.set(2); x.set(12); };
            axiomIs(family, 31, 'c', false);
            axiomIs(family, 31 & ~2, 'c', true);
            axiomIs(family, 31 & ~8, 'c', true);
            axiomIs(x -> { family.make(x); x.set(3); }, 63, 'c', true);
            axiomIs(x -> { family.make(x); x.put(4, 0); }, 31, 'c', true);
            axiomIs(x -> { family.make(x); x.put(2, 1); }, 31, 'c', true);
            axiomIs(x -> { family.make(x); x.put(2, 1); x.put(3, 0); }, 31, 'c', false);
            axiomIs(x -> { family.make(x); x.put(2, 1); x.put(3, 0); x.set(1); }, 63, 'c', true);
            axiomIs(x -> { family.make(x); x.set(0); x.put(4, 5); }, 63, 'c', true);
            Scene turned = x -> { for (int i = 0; i < 3; i++) x.set(0); x.atom(); x.atom(); x.put(0, 1); x.put(0, 2); x.put(1, 3); x.put(2, 4); };
            axiomIs(turned, 31, 'c', false);
            axiomIs(x -> { turned.make(x); x.put(1, 4); }, 31, 'c', true);
            axiomIs(x -> { turned.make(x); x.set(1 << 3 | 1 << 4); }, 63, 'c', true);
            Scene lowest = x -> { for (int i = 0; i < 3; i++) x.set(0); x.atom(); x.atom(); x.put(2, 0); x.put(2, 1); x.put(0, 3); x.put(1, 4); };
            axiomIs(lowest, 31, 'c', false);
            axiomIs(x -> { lowest.make(x); x.put(0, 4); }, 31, 'c', true);
            axiomIs(x -> { lowest.make(x); x.put(1, 3); }, 31, 'c', true);
            axiomIs(x -> { lowest.make(x); x.put(0, 4); x.put(1, 3); }, 31, 'c', false);
        });
        edge(TERMS, "'n' there are no atoms", () -> {
            axiomIs(EdgesTest::sixThings, 63, 'n', false);
            axiomIs(EdgesTest::sixThings, 1 << 4, 'n', false);
            axiomIs(EdgesTest::sixThings, 63 & ~(1 << 4), 'n', true);
            axiomIs(EdgesTest::sixThings, 1 << 5, 'n', true);
        });
    }

    // ---- terms: atoms, names, games

    /** 0, 1, 2 atoms; 3 = {0}, 4 = {1}, 5 = {3, 4}, 6 = {0, 1, 2}, 7 = {}, 8 = {{0}, 1}. */
    private static void threeAtoms(Urelementary x) {
        for (int i = 0; i < 3; i++) x.atom();
        x.set(1);
        x.set(2);
        x.set(1 << 3 | 1 << 4);
        x.set(7);
        x.set(0);
        x.set(1 << 3 | 2);
    }

    private static void termsOfAtoms() {
        edge(TERMS, "To swap two atoms in a thing puts each in the place of the other one, however deep.", () -> {
            Urelementary x = made(EdgesTest::threeAtoms);
            int[] want = {1, 0, 2, 4, 3, 5, 6, 7};
            for (int i = 0; i < want.length; i++) {
                due(want[i], x.swapped(i, 0, 1));
                due(want[i], x.swapped(i, 1, 0));
            }
            due("NoSuchElementException", answer(x, y -> y.swapped(8, 0, 1)));
            due(9, x.set(1 << 4 | 1));
            due(9, x.swapped(8, 0, 1));
            due(8, x.swapped(9, 0, 1));
            for (int i = 0; i < 10; i++) due(i, x.swapped(i, 2, 2));
        });
        edge(TERMS, "A thing is fixed by a swap if it is equal to what comes of it.", () -> {
            Urelementary x = made(EdgesTest::threeAtoms);
            boolean[] want = {false, false, true, false, false, true, true, true, false};
            for (int i = 0; i < want.length; i++) {
                due(want[i], x.isFixed(i, 0, 1));
                due(want[i], x.isFixed(i, 1, 0));
                due(true, x.isFixed(i, 1, 1));
            }
            x.put(3, 3);
            x.put(4, 4);
            due(true, x.isFixed(5, 0, 1));
            due(false, x.isFixed(3, 0, 1));
            due(4, x.swapped(3, 0, 1));
        });
        edge(TERMS, "A set of atoms supports a thing if each swap of two atoms that are not in it fixes the thing.", () -> {
            Urelementary x = made(EdgesTest::threeAtoms);
            due(1, x.support(0));
            due(1, x.support(3));
            due(4, x.support(5));
            due(3, x.support(8));
            due(0, x.support(6));
            due(0, x.support(7));
        });
        edge(TERMS, "The support is the smallest such set, of several the one with the least number, the sum of 2 to the power of the places of its atoms, in the order in which atoms came.", () -> {
            Urelementary x = new Urelementary();
            due(0, x.set(0));
            due(1, x.atom());
            due(2, x.set(2));
            due(0, x.support(2));
            due(3, x.atom());
            due(1, x.support(2));
            due(1, x.support(1));
            due(1, x.support(3));
            due(4, x.atom());
            due(1, x.support(1));
            due(2, x.support(3));
            due(4, x.support(4));
            due(5, x.set(1 << 1 | 1 << 3));
            due(4, x.support(5));
            due(6, x.atom());
            due(3, x.support(5));
            due(8, x.support(6));
            due(7, x.set(1 << 4 | 1 << 6));
            due(3, x.support(7));
            due(8, x.set(1 << 2 | 1 << 3));
            due(3, x.support(8));
            due(9, x.set(1 << 8 | 1 << 4));
            due(7, x.support(9));
            due(10, x.set(1 << 1 | 1 << 3 | 1 << 4 | 1 << 6));
            due(0, x.support(10));
            due(11, x.set(1 << 1 | 1 << 3 | 1 << 6));
            due(4, x.support(11));
            due(0, x.support(0));
            due(12, x.set(1 << 5 | 1 << 7));
            due(3, x.support(12));
        });
    }

    private static void termsOfNames() {
        edge(TERMS, "An algebra has 1 to 4 points, 2 at first; a value is a set of points, the sum of 2 to the power of each.", () -> {
            Urelementary x = new Urelementary();
            x.name();
            x.name();
            due(3, x.valueOf(0, 0, false));
            due(0, x.give(1, 0, 3));
            for (int points = 1; points <= 4; points++) {
                due(2, x.algebra(points));
                x.name();
                x.name();
                int all = (1 << points) - 1;
                due(all, x.valueOf(0, 0, false));
                due(0, x.give(1, 0, all));
                due(all, x.valueOf(0, 1, true));
                due(all, x.give(1, 0, 0));
                due(0, x.valueOf(0, 1, true));
                due(0, x.nameSupport(1));
                due(0, x.give(1, 0, 1 << points - 1));
                due(1 << points - 1, x.valueOf(0, 1, true));
                due(all ^ 1 << points - 1, x.valueOf(0, 1, false));
            }
            refuses(ARGUMENT, EdgesTest::rich, each(new int[] {0, -1, 5, 6, 32, 33, LOWEST, HIGHEST, LOWEST + 1}, n -> y -> y.algebra(n)));
        });
        edge(TERMS, "At most 12 names are numbered from 0, each with elements: earlier names, each with a value.", () -> {
            Urelementary x = new Urelementary();
            for (int i = 0; i < 12; i++) due(i, x.name());
            for (int i = 0; i < 11; i++) due(0, x.give(11, i, 3));
            due(3, x.valueOf(10, 11, true));
            refuses(STATE, EdgesTest::full, y -> y.name());
            refuses(ARGUMENT, EdgesTest::full, y -> y.give(0, 0, 1), y -> y.give(11, 11, 1), y -> y.give(10, 11, 1), y -> y.give(0, 11, 0));
        });
        edge(TERMS, "The value of x being an element of y is that of all points that are, for some element z of y, in its value and in that of x being equal to z", () -> {
            Urelementary x = new Urelementary();
            x.algebra(4);
            for (int i = 0; i < 4; i++) x.name();
            x.give(1, 0, 3);
            x.give(2, 0, 5);
            x.give(2, 1, 10);
            due(0, x.valueOf(0, 0, true));
            due(3, x.valueOf(0, 1, true));
            due(5 | 10 & 12, x.valueOf(0, 2, true));
            due(10 | 5 & 12, x.valueOf(1, 2, true));
            due(0, x.valueOf(2, 1, true));
            due(0, x.valueOf(2, 2, true));
            due(0, x.valueOf(3, 3, true));
            due(13, x.valueOf(3, 2, true));
        });
        edge(TERMS, "the value of x being equal to y has the points that, for each element z of x, are not in its value or are in that of z being an element of y, and likewise the other way round.", () -> {
            Urelementary x = new Urelementary();
            x.algebra(4);
            for (int i = 0; i < 4; i++) x.name();
            x.give(1, 0, 3);
            x.give(2, 0, 6);
            x.give(3, 1, 15);
            due(15, x.valueOf(0, 0, false));
            due(12, x.valueOf(0, 1, false));
            due(12, x.valueOf(1, 0, false));
            due(9, x.valueOf(2, 0, false));
            due(8 | 2, x.valueOf(1, 2, false));
            due(8 | 2, x.valueOf(2, 1, false));
            due(0, x.valueOf(3, 0, false));
            due(12 & 6, x.valueOf(3, 2, false));
            due(0, x.valueOf(3, 1, false));
            for (int i = 0; i < 4; i++) due(15, x.valueOf(i, i, false));
        });
        edge(TERMS, "The quotient of a name at a point is the set of the quotients of those elements in whose values the point is.", () -> {
            Urelementary x = made(EdgesTest::rich);
            due(0, x.quotient(0, 0));
            due(6, x.quotient(1, 0));
            due(0, x.quotient(1, 1));
            due(6, x.quotient(1, 2));
            due(7, x.quotient(2, 0));
            due(1 << 6, x.inside(7) & ~1);
            due(6, x.quotient(2, 1));
            due(6, x.quotient(2, 2));
            due(8, x.things());
        });
        edge(TERMS, "The support of a name, its points, are those by which its quotients are not all equal to that at the point 0.", () -> {
            Urelementary x = made(EdgesTest::rich);
            due(0, x.nameSupport(0));
            due(2, x.nameSupport(1));
            due(6, x.nameSupport(2));
            x.algebra(4);
            x.name();
            x.name();
            for (int value = 0; value < 16; value++) {
                x.give(1, 0, value);
                due((value & 1) == 0 ? value : 15 & ~value, x.nameSupport(1));
            }
        });
    }

    private static void termsOfGames() {
        edge(TERMS, "A tree has a depth, 1 to 5; at each of so many moves, two sides in turn, the first one beginning, choose 0 or 1; the row of moves, the first one counting most, is a number in base 2.", () -> {
            Urelementary x = new Urelementary();
            for (int depth = 1; depth <= 5; depth++) {
                x.tree(depth, 1 << (1 << depth) - 2);
                for (int row = 0; row < 1 << depth; row++) due(row == (1 << depth) - 2, x.firstWins(depth, row));
                due(depth == 1, x.firstWins(0, 0));
                x.tree(depth, depth == 5 ? ~1 : (1 << (1 << depth)) - 2);
                for (int row = 0; row < 1 << depth; row++) due(row != 0, x.firstWins(depth, row));
                due(depth < 3 ? 1 : 0, x.move(0, 0));
            }
            refuses(ARGUMENT, EdgesTest::rich, each(new int[] {0, -1, 6, 7, 32, 33, 37, LOWEST, HIGHEST}, n -> y -> y.tree(n, 0)));
        });
        edge(TERMS, "A set of these numbers is won by the first side, the others by the other one.", () -> {
            Urelementary x = new Urelementary();
            due(1, x.tree(5, 0));
            for (int row = 0; row < 32; row++) due(false, x.firstWins(5, row));
            due(5, x.tree(5, -1));
            for (int row = 0; row < 32; row++) due(true, x.firstWins(5, row));
            due(5, x.tree(5, 0x9669_6996));
            for (int row = 0; row < 32; row++) due((0x9669_6996 >>> row & 1) == 1, x.firstWins(5, row));
        });
        edge(TERMS, "A side has a strategy if it can win whatever the other one does.", () -> {
            Urelementary x = new Urelementary();
            for (int won = 0; won < 256; won++) {
                x.tree(3, won);
                boolean[] two = new boolean[4];
                for (int i = 0; i < 4; i++) {
                    two[i] = (won >> 2 * i & 3) != 0;
                    due(two[i], x.firstWins(2, i));
                }
                due(two[0] && two[1], x.firstWins(1, 0));
                due(two[2] && two[3], x.firstWins(1, 1));
                due(two[0] && two[1] || two[2] && two[3], x.firstWins(0, 0));
            }
        });
    }

    // ---- terms: ordinals, forms, proofs, exceptions

    private static void isOrdinal(Urelementary x, Object ordinal, int... coefficients) {
        if (!(ordinal instanceof Integer)) {
            tell("answered " + ordinal);
            return;
        }
        for (int power = 0; power < 8; power++) {
            int at = power;
            due(power < coefficients.length ? coefficients[power] : 0, x.coefficient((Integer) ordinal, at));
        }
    }

    /** 0: omega, 1: 999, 2: 100, 3: 0, 4: omega to 3, 5: 1, 6: 99, 7: 99900, 8: 99999, 9: omega to 6, 10: omega to 7. */
    private static void greatOrdinals(Urelementary x) {
        x.ordinal(0, 1, 0, 0);
        x.ordinal(999, 0, 0, 0);
        x.ordinal(100, 0, 0, 0);
        x.ordinal(0, 0, 0, 0);
        x.ordinal(0, 0, 0, 1);
        x.ordinal(1, 0, 0, 0);
        x.ordinal(99, 0, 0, 0);
        x.reckon(1, 2, true);
        x.reckon(7, 6, false);
        x.reckon(4, 4, true);
        x.reckon(9, 0, true);
    }

    private static void termsOfOrdinals() {
        edge(TERMS, "At most 20 ordinals are numbered from 0, each a sum of powers of omega, from 7 down to 0, with coefficients from 0 to 99999.", () -> {
            Urelementary x = new Urelementary();
            for (int i = 0; i < 20; i++) due(i, x.ordinal(i, 0, 0, 0));
            refuses(STATE, EdgesTest::full, y -> y.ordinal(0, 0, 0, 0), y -> y.reckon(0, 1, false), y -> y.reckon(0, 1, true), y -> y.row(0, 1));
            Urelementary g = made(EdgesTest::greatOrdinals);
            isOrdinal(g, 8, 99999);
            isOrdinal(g, 10, 0, 0, 0, 0, 0, 0, 0, 1);
            isOrdinal(g, 3);
            Scene scene = EdgesTest::greatOrdinals;
            refuses(UNSUPPORTED, scene, y -> y.reckon(8, 5, false), y -> y.reckon(5, 8, false), y -> y.reckon(10, 0, true), y -> y.reckon(8, 8, true));
            isOrdinal(g, g.reckon(10, 8, true), 0, 0, 0, 0, 0, 0, 0, 99999);
            isOrdinal(g, g.reckon(11, 8, false), 99999, 0, 0, 0, 0, 0, 0, 99999);
        });
        edge(TERMS, "To add, powers of the first one that are less than the greatest power of the second one vanish, that power's coefficients add up, the others are those of each", () -> {
            Urelementary x = new Urelementary();
            x.ordinal(5, 6, 7, 8);
            x.ordinal(1, 2, 0, 0);
            x.ordinal(0, 0, 0, 0);
            x.ordinal(0, 0, 3, 0);
            x.ordinal(4, 0, 0, 0);
            isOrdinal(x, x.reckon(0, 1, false), 1, 8, 7, 8);
            isOrdinal(x, x.reckon(1, 0, false), 5, 6, 7, 8);
            isOrdinal(x, x.reckon(0, 2, false), 5, 6, 7, 8);
            isOrdinal(x, x.reckon(2, 0, false), 5, 6, 7, 8);
            isOrdinal(x, x.reckon(2, 2, false));
            isOrdinal(x, x.reckon(0, 3, false), 0, 0, 10, 8);
            isOrdinal(x, x.reckon(0, 4, false), 9, 6, 7, 8);
            isOrdinal(x, x.reckon(0, 0, false), 5, 6, 7, 16);
            Urelementary g = made(EdgesTest::greatOrdinals);
            isOrdinal(g, g.reckon(8, 0, false), 0, 1);
            isOrdinal(g, g.reckon(0, 8, false), 99999, 1);
        });
        edge(TERMS, "to multiply, by omega to a power greater than 0 brings the first one's greatest power, raised by it, alone, and by a finite number its greatest coefficient is multiplied, the rest staying; a product by a sum is the sum of the products, by 0 it is 0.", () -> {
            Urelementary x = new Urelementary();
            x.ordinal(5, 6, 7, 0);
            x.ordinal(0, 1, 0, 0);
            x.ordinal(3, 0, 0, 0);
            x.ordinal(3, 1, 0, 0);
            x.ordinal(0, 0, 0, 0);
            x.ordinal(2, 0, 4, 0);
            isOrdinal(x, x.reckon(0, 1, true), 0, 0, 0, 1);
            isOrdinal(x, x.reckon(0, 2, true), 5, 6, 21);
            isOrdinal(x, x.reckon(0, 3, true), 5, 6, 21, 1);
            isOrdinal(x, x.reckon(0, 4, true));
            isOrdinal(x, x.reckon(4, 0, true));
            isOrdinal(x, x.reckon(4, 4, true));
            isOrdinal(x, x.reckon(0, 5, true), 5, 6, 14, 0, 4);
            isOrdinal(x, x.reckon(2, 1, true), 0, 1);
            isOrdinal(x, x.reckon(2, 5, true), 6, 0, 4);
            isOrdinal(x, x.reckon(1, 2, true), 0, 3);
            Urelementary g = made(EdgesTest::greatOrdinals);
            isOrdinal(g, g.reckon(3, 10, true));
            isOrdinal(g, g.reckon(10, 3, true));
            isOrdinal(g, g.reckon(5, 8, true), 99999);
            isOrdinal(g, g.reckon(8, 10, true), 0, 0, 0, 0, 0, 0, 0, 1);
        });
        edge(TERMS, "The row of an ordinal whose coefficient of the power 0 is 0, and that is not 0: its least power, with a coefficient above 0, has 1 less, and the power below it the told number.", () -> {
            Urelementary g = made(EdgesTest::greatOrdinals);
            isOrdinal(g, g.row(0, 0));
            isOrdinal(g, g.row(0, 999), 999);
            isOrdinal(g, g.row(10, 999), 0, 0, 0, 0, 0, 0, 999);
            isOrdinal(g, g.row(4, 1), 0, 0, 1);
            due(15, g.ordinal(0, 0, 5, 9));
            isOrdinal(g, g.row(15, 6), 0, 6, 4, 9);
            isOrdinal(g, g.row(16, 7), 7, 5, 4, 9);
            refuses(LACKING, EdgesTest::greatOrdinals, y -> y.row(3, 0), y -> y.row(3, 5), y -> y.row(5, 0), y -> y.row(8, 999));
        });
    }

    private static void termsOfForms() {
        edge(TERMS, "There are 12 forms of choice.", () -> {
            Urelementary x = new Urelementary();
            for (int i = 0; i < 12; i++) due('y', x.known(i, i));
            due(true, x.implies(11, 0));
            due(0, x.model(1 << 10, 1 << 11));
            due('n', x.known(10, 11));
            refuses(ARGUMENT, EdgesTest::rich, each(bad(12), n -> y -> y.known(n, 0)));
            refuses(ARGUMENT, EdgesTest::rich, each(bad(12), n -> y -> y.known(0, n)));
            refuses(ARGUMENT, EdgesTest::rich, each(bad(12), n -> y -> y.known(n, n)));
        });
        edge(TERMS, "That one implies another one can be told, and models can be told, 10 at most, in which some forms hold and others fail", () -> {
            Urelementary x = new Urelementary();
            for (int i = 0; i < 10; i++) due(i, x.model(1 << i, 1 << i + 1));
            for (int i = 0; i < 10; i++) due('n', x.known(i, i + 1));
            due('-', x.known(10, 11));
            due('-', x.known(1, 0));
            refuses(STATE, EdgesTest::full, y -> y.model(0, 0), y -> y.model(1, 2), y -> y.model(4095, 0));
        });
        edge(TERMS, "what a model does not tell, follows by the implications, what is implied by what holds holding, what implies what fails failing, or is open.", () -> {
            Urelementary x = new Urelementary();
            for (int i = 0; i < 5; i++) due(true, x.implies(i, i + 1));
            for (int i = 6; i < 11; i++) due(true, x.implies(i, i + 1));
            due(0, x.model(1 << 2, 1 << 9));
            for (int i = 0; i < 6; i++) for (int j = 6; j < 12; j++) {
                due(i >= 2 && j <= 9 ? 'n' : '-', x.known(i, j));
                due('-', x.known(j, i));
            }
            due(true, x.implies(0, 6));
            due('y', x.known(0, 11));
            due('n', x.known(2, 0));
            due('n', x.known(5, 0));
            due('-', x.known(5, 1));
            due('-', x.known(1, 0));
        });
        edge(TERMS, "It is refused if a form would hold and fail in one model.", () -> {
            Scene chain = y -> { for (int i = 0; i < 11; i++) if (i != 5) y.implies(i, i + 1); y.model(1 << 3, 1 << 9); };
            refuses(UNSUPPORTED, chain, y -> y.implies(5, 6), y -> y.implies(3, 9), y -> y.implies(4, 7), y -> y.model(1, 1), y -> y.model(1, 1 << 5),
                y -> y.model(1 << 6, 1 << 11), y -> y.model(4095, 4095), y -> y.model(7, 4));
            Urelementary x = made(chain);
            due(true, x.implies(6, 5));
            due(true, x.implies(5, 10));
            due(1, x.model(1 << 5, 1 << 4));
            due('n', x.known(5, 4));
            due(true, x.isSound());
        });
    }

    private static void termsOfProofs() {
        edge(TERMS, "There are 30 statements.", () -> {
            Urelementary x = new Urelementary();
            for (int i = 0; i < 30; i++) due(false, x.isProved(i, true));
            due(0, x.rule(0, 29, false));
            due(true, x.isProved(29, false));
            due(1, x.rule(1 << 29, 0, true));
            due(1, x.uses(0));
            refuses(ARGUMENT, EdgesTest::rich, each(bad(30), n -> y -> y.isProved(n, true)));
            refuses(ARGUMENT, EdgesTest::rich, each(bad(30), n -> y -> y.isProved(n, false)));
            refuses(ARGUMENT, EdgesTest::rich, each(bad(30), n -> y -> y.uses(n)));
        });
        edge(TERMS, "A rule has a conclusion, and premises, all of which must be proved; it may use choice.", () -> {
            Urelementary x = new Urelementary();
            x.rule(0, 0, false);
            x.rule(0, 1, true);
            x.rule(7, 3, false);
            x.rule(1 << 2, 2, false);
            due(false, x.isProved(3, true));
            x.rule(3, 2, false);
            due(true, x.isProved(3, true));
            due(false, x.isProved(3, false));
            due(false, x.isProved(1, false));
            due(true, x.isProved(0, false));
        });
        edge(TERMS, "At most 40 rules are numbered from 0.", () -> {
            Urelementary x = new Urelementary();
            for (int i = 0; i < 40; i++) due(i, x.rule(1 << i % 30, (i + 1) % 30, i % 2 == 0));
            due(true, x.isSpare(39));
            refuses(STATE, EdgesTest::full, y -> y.rule(0, 0, false), y -> y.rule((1 << 30) - 1, 29, true));
        });
        edge(TERMS, "The uses of a proof are those of its last rule, 1 or 0, and those of a proof of each of its premises, each counted as often as it is a premise; the fewest uses of all proofs are told.", () -> {
            Urelementary x = new Urelementary();
            x.rule(0, 0, true);
            x.rule(1, 1, false);
            x.rule(1, 2, false);
            x.rule(7, 3, true);
            due(1, x.uses(0));
            due(1, x.uses(1));
            due(4, x.uses(3));
            x.rule(1 << 3, 0, false);
            due(1, x.uses(0));
            x.rule(0, 4, false);
            x.rule(1 << 4, 2, false);
            due(0, x.uses(2));
            due(3, x.uses(3));
            Urelementary y = new Urelementary();
            for (int i = 29; i >= 0; i--) y.rule((1 << i) - 1, i, true);
            for (int i = 0; i < 30; i++) due(1 << i, y.uses(i));
        });
    }

    private static void termsOfExceptions() {
        edge(TERMS, "A method that throws an exception changes nothing.", () -> {
            refuses(BOUNDS, EdgesTest::rich, y -> y.set(128), y -> y.put(0, 7), y -> y.put(7, 0), y -> y.sum(7), y -> y.value('p', 7), y -> y.world(128),
                y -> y.give(3, 0, 1), y -> y.give(1, 3, 1), y -> y.quotient(3, 0), y -> y.reckon(0, 3, true), y -> y.row(3, 0), y -> y.isSpare(4));
            refuses(ARGUMENT, EdgesTest::rich, y -> y.type('x'), y -> y.value('e', 0), y -> y.world(0), y -> y.algebra(0), y -> y.give(1, 0, 8),
                y -> y.quotient(2, 3), y -> y.tree(6, 0), y -> y.tree(3, 256), y -> y.ordinal(0, 0, 0, 1000), y -> y.row(0, 1000), y -> y.implies(0, 0),
                y -> y.model(4096, 0), y -> y.rule(0, 30, true));
            refuses(UNSUPPORTED, EdgesTest::rich, y -> y.put(1, 0), y -> y.sum(1), y -> y.implies(3, 4), y -> y.model(1, 2));
            refuses(LACKING, EdgesTest::rich, y -> y.row(2, 0), y -> y.row(0, 5), y -> y.swapped(2, 1, 3), y -> y.rank(4), y -> y.code(1), y -> y.uses(7));
            refuses(STATE, EdgesTest::full, y -> y.set(0), y -> y.atom(), y -> y.sum(27), y -> y.type('p'), y -> y.world(1), y -> y.name(),
                y -> y.quotient(11, 3), y -> y.ordinal(0, 0, 0, 0), y -> y.reckon(0, 0, false), y -> y.row(1, 1), y -> y.model(0, 0), y -> y.rule(0, 0, true));
        });
        edge(TERMS, "If several exceptions of a method apply, the one that is listed first is thrown.", () -> {
            refuses(BOUNDS, EdgesTest::full, y -> y.set(1 << 28), y -> y.put(0, 28), y -> y.sum(28), y -> y.world(1 << 28), y -> y.reckon(20, 0, true), y -> y.row(20, -1));
            refuses(ARGUMENT, EdgesTest::full, y -> y.type('x'), y -> y.value('x', 28), y -> y.world(0), y -> y.quotient(11, 4), y -> y.ordinal(1000, 0, 0, 0),
                y -> y.row(0, 1000), y -> y.model(4096, 4096), y -> y.rule(0, 30, false));
            refuses(UNSUPPORTED, EdgesTest::full, y -> y.sum(0), y -> y.model(1, 1));
        });
    }

    // ---- promises 1 to 13: things

    private static void promiseOne() {
        edge(1, "Creates a theatre without things, worlds and names", () -> {
            Call[] bounds = {y -> y.set(1), y -> y.put(0, 0), y -> y.areEqual(0, 0), y -> y.isElement(0, 0), y -> y.size(0), y -> y.isFounded(0), y -> y.rank(0),
                y -> y.code(0), y -> y.inside(0), y -> y.isTransitive(0), y -> y.sum(0), y -> y.value('p', 0), y -> y.world(1), y -> y.holds(0), y -> y.satisfy(0, 'p'),
                y -> y.isAbsolute(0, 0), y -> y.axiom(0, 'e'), y -> y.isFixed(0, 0, 0), y -> y.support(0), y -> y.swapped(0, 0, 0), y -> y.give(0, 0, 0),
                y -> y.valueOf(0, 0, true), y -> y.quotient(0, 0), y -> y.nameSupport(0), y -> y.coefficient(0, 0), y -> y.compare(0, 0), y -> y.reckon(0, 0, true),
                y -> y.row(0, 0), y -> y.isSpare(0)};
            for (Call call : bounds) refuses(BOUNDS, EdgesTest::nothing, call);
            refuses(LACKING, EdgesTest::nothing, y -> y.meanSize(), y -> y.uses(0), y -> y.uses(29));
            refuses(ARGUMENT, EdgesTest::nothing, y -> y.world(0), y -> y.free(), y -> y.isBounded(), y -> y.isStratified(), y -> y.typeOf('p'));
            Urelementary x = new Urelementary();
            due(0, x.things());
            due(0, x.fault());
            due(0, x.wipe());
            due(0f, x.knownShare());
            due(true, x.isSound());
            due('-', x.known(0, 11));
            due(false, x.isProved(0, true));
            due(0, x.set(0));
            due(0, x.world(1));
            due(0, x.name());
            due(0, x.ordinal(0, 0, 0, 0));
            due(0, x.model(0, 0));
            due(0, x.rule(0, 0, false));
        });
        edge(1, "with an algebra of 2 points", () -> {
            Urelementary x = new Urelementary();
            x.name();
            x.name();
            due(3, x.valueOf(0, 0, false));
            due(0, x.give(1, 0, 3));
            refuses(ARGUMENT, y -> { y.name(); y.name(); }, y -> y.give(1, 0, 4), y -> y.quotient(0, 2));
            due(0, new Urelementary().algebra(2));
        });
        edge(1, "and a tree of the depth 1 that the other side wins", () -> {
            Urelementary x = new Urelementary();
            due(false, x.firstWins(0, 0));
            due(false, x.firstWins(1, 0));
            due(false, x.firstWins(1, 1));
            refuses(ARGUMENT, EdgesTest::nothing, y -> y.firstWins(2, 0), y -> y.move(1, 0));
            refuses(LACKING, EdgesTest::nothing, y -> y.move(0, 0));
            due(1, x.tree(2, 0));
        });
    }

    private static void promisesOfMaking() {
        edge(2, "Throws `IllegalStateException` if there are 28 things, or 4 atoms", () -> {
            refuses(STATE, x -> { for (int i = 0; i < 28; i++) x.set(0); }, y -> y.atom());
            refuses(STATE, x -> { for (int i = 0; i < 4; i++) x.atom(); }, y -> y.atom());
            refuses(STATE, EdgesTest::fullThings, y -> y.atom());
            due(27, made(x -> { for (int i = 0; i < 3; i++) x.atom(); for (int i = 3; i < 27; i++) x.set(7); }).atom());
            due(3, made(x -> { for (int i = 0; i < 3; i++) x.atom(); }).atom());
        });
        edge(3, "its elements, the sum of 2 to the power of each", () -> {
            Urelementary x = made(EdgesTest::sixThings);
            for (int mask = 0; mask < 63; mask += 3) {
                if (x.things() < 28) {
                    int t = x.set(mask & 63);
                    due(mask == 0 ? 0 : mask & 63, x.inside(t) & mask);
                    due(Integer.bitCount(mask), x.size(t));
                }
            }
            Urelementary y = made(z -> { for (int i = 0; i < 27; i++) z.set(0); });
            due(27, y.set(1 << 26));
            due(1 << 26, y.inside(27));
        });
        edge(3, "Throws `IndexOutOfBoundsException` if there is no such thing among them", () -> {
            refuses(BOUNDS, EdgesTest::nothing, each(badMasks(0), n -> y -> y.set(n)));
            refuses(BOUNDS, EdgesTest::rich, each(badMasks(7), n -> y -> y.set(n)));
            refuses(BOUNDS, x -> { for (int i = 0; i < 27; i++) x.set(0); }, each(badMasks(27), n -> y -> y.set(n)));
        });
        edge(3, "Throws `IllegalStateException` if there are 28 things", () -> {
            refuses(STATE, EdgesTest::fullThings, y -> y.set(0), y -> y.set(1), y -> y.set((1 << 28) - 1));
            due(27, made(x -> { for (int i = 0; i < 27; i++) x.set(0); }).set((1 << 27) - 1));
        });
        pair(3, BOUNDS, STATE, EdgesTest::fullThings, each(badMasks(28), n -> y -> y.set(n)));
        edge(4, "the thing, perhaps the set itself", () -> {
            Urelementary x = made(EdgesTest::sixThings);
            due(true, x.put(0, 0));
            due(false, x.put(0, 0));
            due(1, x.size(0));
            Urelementary y = made(EdgesTest::fullThings);
            due(true, y.put(27, 27));
            due(true, y.isElement(27, 27));
        });
        edge(4, "Returns whether it was not told as an element, by its number.", () -> {
            Urelementary x = made(EdgesTest::sixThings);
            x.set(0);
            due(true, x.isElement(6, 1));
            due(true, x.put(1, 6));
            due(false, x.put(1, 6));
            due(false, x.put(1, 0));
            due(1, x.size(1));
        });
        edge(4, "Throws `IndexOutOfBoundsException` if there is no such thing, for either", () -> {
            refuses(BOUNDS, EdgesTest::rich, each(bad(7), n -> y -> y.put(n, 0)));
            refuses(BOUNDS, EdgesTest::rich, each(bad(7), n -> y -> y.put(0, n)));
            refuses(BOUNDS, EdgesTest::fullThings, each(bad(28), n -> y -> y.put(n, n)));
        });
        edge(4, "Throws `UnsupportedOperationException` if the first one is an atom", () -> {
            refuses(UNSUPPORTED, EdgesTest::rich, y -> y.put(1, 0), y -> y.put(3, 3), y -> y.put(1, 3), y -> y.put(3, 6));
            due(true, made(EdgesTest::rich).put(0, 1));
        });
        pair(4, BOUNDS, UNSUPPORTED, EdgesTest::rich, each(bad(7), n -> y -> y.put(1, n)));
    }

    private static void promisesOfTelling() {
        edge(5, "another one, or the same one", () -> {
            Urelementary x = made(EdgesTest::rich);
            for (int i = 0; i < 7; i++) for (int j = 0; j < 7; j++) due(i == j, x.areEqual(i, j));
        });
        edge(5, "Throws `IndexOutOfBoundsException` if there is no such thing, for either", () -> {
            refuses(BOUNDS, EdgesTest::rich, each(bad(7), n -> y -> y.areEqual(n, 0)));
            refuses(BOUNDS, EdgesTest::rich, each(bad(7), n -> y -> y.areEqual(0, n)));
            refuses(BOUNDS, EdgesTest::fullThings, each(bad(28), n -> y -> y.areEqual(n, n)));
        });
        edge(6, "another one, or the same one", () -> {
            Urelementary x = made(EdgesTest::rich);
            for (int i = 0; i < 7; i++) due(i == 4, x.isElement(i, i));
        });
        edge(6, "Returns whether it is; of an atom it is not.", () -> {
            Urelementary x = made(EdgesTest::rich);
            for (int i = 0; i < 7; i++) {
                due(false, x.isElement(i, 1));
                due(false, x.isElement(i, 3));
                due(i == 2 || i == 3, x.isElement(i, 5));
            }
        });
        edge(6, "Throws `IndexOutOfBoundsException` if there is no such thing, for either", () -> {
            refuses(BOUNDS, EdgesTest::rich, each(bad(7), n -> y -> y.isElement(n, 0)));
            refuses(BOUNDS, EdgesTest::rich, each(bad(7), n -> y -> y.isElement(0, n)));
            refuses(BOUNDS, EdgesTest::fullThings, each(bad(28), n -> y -> y.isElement(n, n)));
        });
        edge(7, "Returns the number of elements, 0 of an atom.", () -> {
            Urelementary x = made(EdgesTest::rich);
            int[] want = {0, 0, 2, 0, 1, 2, 1};
            for (int i = 0; i < 7; i++) due(want[i], x.size(i));
            Urelementary y = made(EdgesTest::fullThings);
            for (int i = 0; i < 28; i++) y.put(27, i);
            due(28, y.size(27));
            due(0, y.size(3));
        });
        edge(7, "Throws `IndexOutOfBoundsException` if there is no such thing", () -> {
            refuses(BOUNDS, EdgesTest::rich, each(bad(7), n -> y -> y.size(n)));
            refuses(BOUNDS, EdgesTest::fullThings, each(bad(28), n -> y -> y.size(n)));
        });
        edge(8, "Throws `IndexOutOfBoundsException` if there is no such thing", () -> {
            refuses(BOUNDS, EdgesTest::rich, each(bad(7), n -> y -> y.isFounded(n)));
            refuses(BOUNDS, EdgesTest::fullThings, each(bad(28), n -> y -> y.isFounded(n)));
        });
        edge(9, "Throws `IndexOutOfBoundsException` if there is no such thing", () -> {
            refuses(BOUNDS, EdgesTest::rich, each(bad(7), n -> y -> y.rank(n)));
            refuses(BOUNDS, EdgesTest::fullThings, each(bad(28), n -> y -> y.rank(n)));
        });
        edge(9, "Throws `NoSuchElementException` if it is not founded", () -> {
            refuses(LACKING, EdgesTest::rich, y -> y.rank(4));
            refuses(LACKING, x -> { fullThings(x); x.put(4, 27); }, y -> y.rank(4), y -> y.rank(27), y -> y.rank(15));
            due(0, made(x -> { fullThings(x); x.put(4, 27); }).rank(3));
        });
        apart(9, BOUNDS, LACKING, "a thing that is not there can not be unfounded");
    }

    private static void promisesOfCodes() {
        edge(10, "Throws `IndexOutOfBoundsException` if there is no such thing", () -> {
            refuses(BOUNDS, EdgesTest::rich, each(bad(7), n -> y -> y.code(n)));
            refuses(BOUNDS, EdgesTest::fullThings, each(bad(28), n -> y -> y.code(n)));
        });
        edge(10, "Throws `NoSuchElementException` if it is not founded, or has an atom in it, or is one", () -> {
            refuses(LACKING, EdgesTest::rich, y -> y.code(4), y -> y.code(2), y -> y.code(5), y -> y.code(1), y -> y.code(3));
            refuses(LACKING, x -> { x.atom(); for (int i = 1; i < 28; i++) x.set(1 << i - 1); }, y -> y.code(27), y -> y.code(1), y -> y.code(0));
            refuses(LACKING, x -> { x.set(0); x.put(0, 0); for (int i = 1; i < 28; i++) x.set(1 << i - 1); }, y -> y.code(27), y -> y.code(1), y -> y.code(0));
        });
        edge(10, "Throws `IllegalStateException` if the code of an element is greater than 61", () -> {
            Urelementary x = made(EdgesTest::greatCodes);
            long[] want = {0, 1, 3, 2, 4, 5, 61, 62, 1L << 61, 1L << 61 | 1};
            for (int i = 0; i < want.length; i++) due(want[i], x.code(i));
            refuses(STATE, EdgesTest::greatCodes, y -> y.code(10), y -> y.code(11), y -> y.code(12), y -> y.code(13));
            Urelementary z = made(EdgesTest::fullThings);
            long[] row = {0, 1, 2, 4, 16, 65536};
            for (int i = 0; i < row.length; i++) due(row[i], z.code(4 + i));
            refuses(STATE, EdgesTest::fullThings, y -> y.code(10), y -> y.code(11), y -> y.code(27));
        });
        edge(10, "Returns the code.", () -> {
            Urelementary x = new Urelementary();
            x.set(0);
            for (int i = 1; i < 6; i++) x.set((1 << i) - 1);
            due(1L | 2 | 8, x.code(3));
            due(1L | 2 | 8 | 2048, x.code(4));
            due("IllegalStateException", answer(x, y -> y.code(5)));
            Urelementary great = made(EdgesTest::greatCodes);
            due(14, great.set(1 << 2 | 1 << 3 | 1 << 4 | 1 << 5));
            due(60L, great.code(14));
            due(15, great.set(1 << 14 | 1 << 6 | 1 << 5 | 1));
            due(1L << 61 | 1L << 60 | 1L << 5 | 1L, great.code(15));
        });
        pair(10, LACKING, STATE, x -> { greatCodes(x); x.atom(); x.set(1 << 10 | 1 << 14); x.set(1 << 10); x.put(16, 16); x.set(1 << 15 | 1 << 11); },
            y -> y.code(15), y -> y.code(16), y -> y.code(17));
        apart(10, BOUNDS, LACKING, "a thing that is not there has no elements");
        apart(10, BOUNDS, STATE, "a thing that is not there has no elements");
        edge(11, "Returns the things told as elements, theirs, and so on, as a set.", () -> {
            Urelementary x = made(EdgesTest::sixThings);
            x.set(0);
            due(1, x.inside(1));
            due(3, x.inside(3));
            x.put(3, 6);
            due(3 | 1 << 6, x.inside(3));
            due(0, x.inside(4));
            Urelementary y = made(EdgesTest::fullThings);
            y.put(4, 27);
            due((1 << 28) - 16, y.inside(27));
            y.put(27, 3);
            due((1 << 28) - 8, y.inside(4));
        });
        edge(11, "Throws `IndexOutOfBoundsException` if there is no such thing", () -> {
            refuses(BOUNDS, EdgesTest::rich, each(bad(7), n -> y -> y.inside(n)));
            refuses(BOUNDS, EdgesTest::fullThings, each(bad(28), n -> y -> y.inside(n)));
        });
        edge(12, "Throws `IndexOutOfBoundsException` if there is no such thing", () -> {
            refuses(BOUNDS, EdgesTest::rich, each(bad(7), n -> y -> y.isTransitive(n)));
            refuses(BOUNDS, EdgesTest::fullThings, each(bad(28), n -> y -> y.isTransitive(n)));
        });
    }

    /** 6 has the code 61, 7 has 62, 8 = {6}, 9 = {6, 0}, 10 = {7}, 11 = {8}, 12 = {7, 0}, 13 = {10}. */
    private static void greatCodes(Urelementary x) {
        x.set(0);
        x.set(1);
        x.set(3);
        x.set(2);
        x.set(1 << 3);
        x.set(1 | 1 << 3);
        x.set(1 | 1 << 2 | 1 << 3 | 1 << 4 | 1 << 5);
        x.set(2 | 1 << 2 | 1 << 3 | 1 << 4 | 1 << 5);
        x.set(1 << 6);
        x.set(1 << 6 | 1);
        x.set(1 << 7);
        x.set(1 << 8);
        x.set(1 << 7 | 1);
        x.set(1 << 10);
    }

    private static void promisesOfSums() {
        edge(13, "Adds the sum of a set: the set of the elements of its elements.", () -> {
            Urelementary x = made(EdgesTest::sixThings);
            due(6, x.sum(2));
            due(1, x.inside(6));
            due(7, x.sum(0));
            due(0, x.size(7));
            due(8, x.sum(5));
            due(0, x.inside(8));
            due(9, x.set(1 << 9 - 1 | 1 << 5 | 1 << 2));
            due(10, x.sum(9));
            due(1 | 2 | 1 << 4, x.inside(10));
            x.put(0, 0);
            due(11, x.sum(0));
            due(true, x.areEqual(0, 11));
        });
        edge(13, "Throws `IndexOutOfBoundsException` if there is no such thing", () ->
            refuses(BOUNDS, EdgesTest::rich, each(bad(7), n -> y -> y.sum(n))));
        edge(13, "Throws `UnsupportedOperationException` if it is an atom", () ->
            refuses(UNSUPPORTED, EdgesTest::rich, y -> y.sum(1), y -> y.sum(3)));
        edge(13, "Throws `IllegalStateException` if there are 28 things", () -> {
            refuses(STATE, EdgesTest::fullThings, y -> y.sum(4), y -> y.sum(27));
            due(27, made(x -> { for (int i = 0; i < 27; i++) x.set(0); }).sum(26));
        });
        pair(13, BOUNDS, STATE, EdgesTest::fullThings, each(bad(28), n -> y -> y.sum(n)));
        pair(13, UNSUPPORTED, STATE, EdgesTest::fullThings, y -> y.sum(0), y -> y.sum(3));
        apart(13, BOUNDS, UNSUPPORTED, "a thing that is not there is no atom");
    }

    // ---- promises 14 to 21: formulas

    private static void promisesOfTexts() {
        edge(14, "Returns how many signs the text has.", () -> {
            Urelementary x = new Urelementary();
            String signs = "pqrste=a!&|AEBS";
            for (int i = 0; i < 40; i++) due(i + 1, x.type(signs.charAt(i % 15)));
        });
        edge(14, "Throws `IllegalArgumentException` if it is none of p q r s t e = a ! & | A E B S", () ->
            refuses(ARGUMENT, EdgesTest::rich, each(signsBut("pqrste=a!&|AEBS"), c -> y -> y.type(c))));
        edge(14, "Throws `IllegalStateException` if it has 40", () -> {
            refuses(STATE, EdgesTest::full, each("pqrste=a!&|AEBS".toCharArray(), c -> y -> y.type(c)));
            due(40, made(x -> write(x, "!".repeat(39))).type('S'));
        });
        pair(14, ARGUMENT, STATE, EdgesTest::full, each(signsBut("pqrste=a!&|AEBS"), c -> y -> y.type(c)));
        edge(15, "Returns how many signs it had.", () -> {
            Urelementary x = made(EdgesTest::full);
            due(40, x.wipe());
            due(0, x.wipe());
            due(1, x.type('a'));
            due(1, x.wipe());
            due(0, x.fault());
            due(0, new Urelementary().wipe());
        });
        edge(16, "Returns the place, -1 if it is a formula.", () -> {
            faults("ap", -1);
            faults("apa", 2);
            faults("a", 1);
            faults("", 0);
            Urelementary x = new Urelementary();
            int[] want = {1, 2, 3, 4, 5, 6, -1, 7};
            String text = "&!apqeqp";
            for (int i = 0; i < 8; i++) {
                x.type(text.charAt(i));
                due(want[i], x.fault());
                due(want[i], x.fault());
            }
            due(-1, made(EdgesTest::full).fault());
        });
        edge(17, "Returns the sum of 1 for p, 2 for q, 4 for r, 8 for s and 16 for t.", () -> {
            for (int mask = 1; mask < 32; mask++) {
                StringBuilder text = new StringBuilder("&".repeat(Integer.bitCount(mask) - 1));
                for (int i = 0; i < 5; i++) if ((mask >> i & 1) == 1) text.append('a').append("pqrst".charAt(i));
                Urelementary x = new Urelementary();
                write(x, text.toString());
                due(mask, x.free());
            }
        });
        for (int number = 17; number <= 19; number++) {
            Call call = number == 17 ? y -> y.free() : number == 18 ? y -> y.isBounded() : y -> y.isStratified();
            edge(number, "Throws `IllegalArgumentException` if the text is no formula", () -> {
                for (String text : new String[] {"", "a", "apa", "A", "Ap", "e", "&ap", "pep!", "Bpq"}) refuses(ARGUMENT, x -> write(x, text), call);
                refuses(ARGUMENT, x -> write(x, "!".repeat(40)), call);
                due(false, answer(made(x -> write(x, "p=q")), call).contains("Exception"));
            });
        }
        edge(18, "Returns whether the formula has no A and no E.", () -> {
            String[] texts = {"ap", "Apap", "Epap", "BpqSqrap", "BpqAqap", "SpqEqap", "&apEqaq", "|Aqaqap", "!peq"};
            boolean[] want = {true, false, false, true, false, false, false, false, true};
            for (int i = 0; i < texts.length; i++) {
                String text = texts[i];
                due(want[i], made(x -> write(x, text)).isBounded());
            }
        });
    }

    private static void promisesOfTypes() {
        edge(20, "Throws `IllegalArgumentException` if the text is no formula, or there is no such variable", () -> {
            refuses(ARGUMENT, EdgesTest::rich, each(signsBut("pqrst"), c -> y -> y.typeOf(c)));
            for (String text : new String[] {"", "pe", "peq!", "Ap"}) refuses(ARGUMENT, x -> write(x, text), y -> y.typeOf('p'), y -> y.typeOf('t'), y -> y.typeOf('x'));
        });
        edge(20, "Throws `NoSuchElementException` if it is not stratified, or the variable does not stand in it", () -> {
            refuses(LACKING, x -> write(x, "pep"), y -> y.typeOf('p'), y -> y.typeOf('q'), y -> y.typeOf('t'));
            refuses(LACKING, x -> write(x, "&ar&pepaq"), y -> y.typeOf('q'), y -> y.typeOf('r'), y -> y.typeOf('p'));
            refuses(LACKING, x -> write(x, "Bppaq"), y -> y.typeOf('q'));
            refuses(LACKING, x -> write(x, "Apaq"), y -> y.typeOf('r'), y -> y.typeOf('s'), y -> y.typeOf('t'));
            Urelementary x = made(y -> write(y, "Apaq"));
            due(0, x.typeOf('p'));
            due(0, x.typeOf('q'));
        });
        pair(20, ARGUMENT, LACKING, x -> write(x, "pep"), each(signsBut("pqrst"), c -> y -> y.typeOf(c)));
        edge(20, "Returns the type.", () -> {
            types("&teq&qesser", "-1320");
            types("&teq&qes&serreq", "-----");
        });
        edge(21, "Returns the value before, -1 for none.", () -> {
            Urelementary x = made(EdgesTest::fullThings);
            for (char v : "pqrst".toCharArray()) {
                due(-1, x.value(v, 0));
                due(0, x.value(v, 27));
                due(27, x.value(v, 27));
            }
            x.wipe();
            due(27, x.value('t', 1));
        });
        edge(21, "Throws `IllegalArgumentException` if there is no such variable", () ->
            refuses(ARGUMENT, EdgesTest::rich, each(signsBut("pqrst"), c -> y -> y.value(c, 0))));
        edge(21, "Throws `IndexOutOfBoundsException` if there is no such thing", () -> {
            refuses(BOUNDS, EdgesTest::rich, each(bad(7), n -> y -> y.value('p', n)));
            refuses(BOUNDS, EdgesTest::fullThings, each(bad(28), n -> y -> y.value('t', n)));
            refuses(BOUNDS, EdgesTest::nothing, y -> y.value('p', 0), y -> y.value('t', -1));
        });
        pair(21, ARGUMENT, BOUNDS, EdgesTest::rich, each(bad(7), n -> y -> y.value('x', n)));
    }

    // ---- promises 22 to 29: worlds and atoms

    /** A world of 0 to 3, one of 0 and 1, one of all: p is 0, q is 3, t is 5. */
    private static void threeWorlds(Urelementary x) {
        sixThings(x);
        x.world(15);
        x.world(3);
        x.world(63);
        x.value('p', 0);
        x.value('q', 3);
        x.value('t', 5);
    }

    private static Scene worldsWith(String text) {
        return x -> { threeWorlds(x); write(x, text); };
    }

    private static void promisesOfWorlds() {
        edge(22, "its things, the sum of 2 to the power of each", () -> {
            Urelementary x = made(EdgesTest::fullThings);
            int[] masks = {1, 1 << 27, (1 << 28) - 1, 1 << 27 | 1, 1 << 13, 255, 15, 1 << 4};
            write(x, "p=p");
            for (int i = 0; i < 8; i++) {
                due(i, x.world(masks[i]));
                due(Integer.bitCount(masks[i]), x.satisfy(i, 'p'));
            }
        });
        edge(22, "Throws `IndexOutOfBoundsException` if there is no such thing among them", () -> {
            refuses(BOUNDS, EdgesTest::rich, each(badMasks(7), n -> y -> y.world(n)));
            refuses(BOUNDS, EdgesTest::fullThings, each(badMasks(28), n -> y -> y.world(n)));
            refuses(BOUNDS, EdgesTest::nothing, each(badMasks(0), n -> y -> y.world(n)));
        });
        edge(22, "Throws `IllegalArgumentException` if there are none", () -> {
            refuses(ARGUMENT, EdgesTest::rich, y -> y.world(0));
            refuses(ARGUMENT, EdgesTest::nothing, y -> y.world(0));
        });
        edge(22, "Throws `IllegalStateException` if there are 8", () -> {
            Scene seven = x -> { fullThings(x); for (int i = 0; i < 7; i++) x.world(1); };
            due(7, made(seven).world(1));
            refuses(STATE, x -> { seven.make(x); x.world(2); }, y -> y.world(1), y -> y.world(2), y -> y.world((1 << 28) - 1));
        });
        apart(22, BOUNDS, ARGUMENT, "of no things none is one that is not there");
        pair(22, BOUNDS, STATE, EdgesTest::full, each(badMasks(28), n -> y -> y.world(n)));
        pair(22, ARGUMENT, STATE, EdgesTest::full, y -> y.world(0));
        for (int number : new int[] {23, 24, 26}) {
            edge(number, "Throws `IndexOutOfBoundsException` if there is no such world", () -> {
                refuses(BOUNDS, worldsWith("p=p"), each(bad(3), n -> y -> number == 23 ? y.holds(n) : number == 24 ? y.satisfy(n, 'p') : y.axiom(n, 'x')));
                refuses(BOUNDS, EdgesTest::full, each(bad(8), n -> y -> number == 23 ? y.holds(n) : number == 24 ? y.satisfy(n, 'p') : y.axiom(n, 'n')));
                refuses(BOUNDS, EdgesTest::nothing, each(bad(0), n -> y -> number == 23 ? y.holds(n) : number == 24 ? y.satisfy(n, 'p') : y.axiom(n, 'e')));
            });
        }
        edge(23, "Throws `IllegalArgumentException` if the text is no formula", () -> {
            for (String text : new String[] {"", "p", "ap!", "Ap", "!"}) refuses(ARGUMENT, worldsWith(text), y -> y.holds(0), y -> y.holds(2));
        });
        edge(23, "Throws `UnsupportedOperationException` if a free variable has no value, or one whose number is not in the world", () -> {
            refuses(UNSUPPORTED, worldsWith("ar"), y -> y.holds(0), y -> y.holds(1), y -> y.holds(2));
            refuses(UNSUPPORTED, worldsWith("peq"), y -> y.holds(1));
            refuses(UNSUPPORTED, worldsWith("at"), y -> y.holds(0), y -> y.holds(1));
            refuses(UNSUPPORTED, worldsWith("|p=pas"), y -> y.holds(2));
            refuses(UNSUPPORTED, worldsWith("Brrar"), y -> y.holds(2));
            refuses(UNSUPPORTED, x -> { worldsWith("p=p").make(x); x.set(0); x.value('p', 6); }, y -> y.holds(0), y -> y.holds(2));
            due(true, made(worldsWith("Arr=r")).holds(1));
            due(false, made(worldsWith("peq")).holds(0));
            due(false, made(worldsWith("peq")).holds(2));
            due(true, made(worldsWith("p=p")).holds(1));
        });
        pair(23, BOUNDS, ARGUMENT, worldsWith("ap!"), each(bad(3), n -> y -> y.holds(n)));
        pair(23, BOUNDS, UNSUPPORTED, worldsWith("ar"), each(bad(3), n -> y -> y.holds(n)));
        pair(23, ARGUMENT, UNSUPPORTED, worldsWith("arar"), y -> y.holds(0), y -> y.holds(1));
    }

    private static void promisesOfWeighing() {
        edge(24, "the variable, whose told value does not count", () -> {
            Urelementary x = made(worldsWith("p=p"));
            due(4, x.satisfy(0, 'p'));
            x.value('p', 5);
            due(4, x.satisfy(0, 'p'));
            write(x, "ar");
            due(1, x.satisfy(2, 'r'));
            due(0, x.satisfy(0, 'r'));
            x.value('r', 4);
            due(0, x.satisfy(0, 'r'));
            write(x, "Arr=r");
            due(4, x.satisfy(0, 'r'));
            due(2, x.satisfy(1, 's'));
            write(x, "Ar!r=r");
            due(0, x.satisfy(2, 'r'));
            write(x, "Brrar");
            due(3, x.satisfy(2, 'r'));
            due(1, x.satisfy(0, 'r'));
        });
        edge(24, "Returns the number of things.", () -> {
            Urelementary x = new Urelementary();
            for (int i = 0; i < 28; i++) x.set(0);
            x.world((1 << 28) - 1);
            x.value('q', 0);
            write(x, "p=q");
            due(28, x.satisfy(0, 'p'));
            x.put(5, 0);
            due(27, x.satisfy(0, 'p'));
            write(x, "!p=p");
            due(0, x.satisfy(0, 'p'));
            Urelementary y = made(EdgesTest::fullThings);
            y.world((1 << 28) - 16);
            String[] texts = {"EqErEsEt&peq&qer&resset", "EqErEsEt&qep&req&sertes", "AqAr|!peq|!qer!per", "EqEr&qep&rep!q=r", "EqAr!rep", "Aq!qep", "EqBrp|r=qqer"};
            int[] want = {20, 20, 24, 0, 1, 1, 24};
            for (int i = 0; i < texts.length; i++) {
                write(y, texts[i]);
                checks++;
                if (y.satisfy(0, 'p') != want[i]) tell("'" + texts[i] + "' is satisfied by " + y.satisfy(0, 'p') + ", due is " + want[i]);
            }
            y.put(27, 4);
            write(y, "EqEr&qep&rep!q=r");
            due(1, y.satisfy(0, 'p'));
        });
        edge(24, "Throws `IllegalArgumentException` if the text is no formula, or there is no such variable", () -> {
            refuses(ARGUMENT, worldsWith("p=p"), each(signsBut("pqrst"), c -> y -> y.satisfy(0, c)));
            for (String text : new String[] {"", "p", "ap!", "Ap"}) refuses(ARGUMENT, worldsWith(text), y -> y.satisfy(0, 'p'), y -> y.satisfy(2, 't'), y -> y.satisfy(1, 'x'));
        });
        edge(24, "Throws `UnsupportedOperationException` if another free variable has no value, or one whose number is not in the world", () -> {
            refuses(UNSUPPORTED, worldsWith("per"), y -> y.satisfy(0, 'p'), y -> y.satisfy(0, 'q'), y -> y.satisfy(2, 't'));
            refuses(UNSUPPORTED, worldsWith("peq"), y -> y.satisfy(1, 'p'), y -> y.satisfy(1, 'r'));
            refuses(UNSUPPORTED, worldsWith("&peqrer"), y -> y.satisfy(0, 'p'), y -> y.satisfy(0, 'q'), y -> y.satisfy(1, 'r'));
            due(2, made(worldsWith("per")).satisfy(0, 'r'));
            due(0, made(worldsWith("qep")).satisfy(1, 'q'));
        });
        pair(24, BOUNDS, ARGUMENT, worldsWith("ap!"), each(bad(3), n -> y -> y.satisfy(n, 'p')));
        pair(24, BOUNDS, UNSUPPORTED, worldsWith("ar"), each(bad(3), n -> y -> y.satisfy(n, 'p')));
        pair(24, ARGUMENT, UNSUPPORTED, worldsWith("ar"), each(signsBut("pqrst"), c -> y -> y.satisfy(0, c)));
        edge(25, "the greater one, or the same one", () -> {
            for (String text : new String[] {"peq", "Eqpeq", "ApEqpeq", "ar", "at", "!p=p"}) {
                Urelementary x = made(worldsWith(text));
                for (int w = 0; w < 3; w++) due(true, x.isAbsolute(w, w));
            }
        });
        edge(25, "Throws `IndexOutOfBoundsException` if there is no such world, for either", () -> {
            refuses(BOUNDS, worldsWith("p=p"), each(bad(3), n -> y -> y.isAbsolute(n, 0)));
            refuses(BOUNDS, worldsWith("p=p"), each(bad(3), n -> y -> y.isAbsolute(0, n)));
            refuses(BOUNDS, EdgesTest::full, each(bad(8), n -> y -> y.isAbsolute(n, n)));
        });
        edge(25, "Throws `IllegalArgumentException` if the text is no formula", () -> {
            for (String text : new String[] {"", "p", "ap!", "Ap"}) refuses(ARGUMENT, worldsWith(text), y -> y.isAbsolute(0, 0), y -> y.isAbsolute(1, 2));
        });
        edge(25, "Throws `UnsupportedOperationException` if a thing of the first one is not in the other one", () -> {
            refuses(UNSUPPORTED, worldsWith("p=p"), y -> y.isAbsolute(0, 1), y -> y.isAbsolute(2, 0), y -> y.isAbsolute(2, 1));
            due(true, made(worldsWith("p=p")).isAbsolute(1, 0));
            due(true, made(worldsWith("p=p")).isAbsolute(0, 2));
        });
        pair(25, BOUNDS, ARGUMENT, worldsWith("ap!"), each(bad(3), n -> y -> y.isAbsolute(n, 0)));
        pair(25, ARGUMENT, UNSUPPORTED, worldsWith("ap!"), y -> y.isAbsolute(0, 1), y -> y.isAbsolute(2, 0));
        apart(25, BOUNDS, UNSUPPORTED, "a world that is not there has no things");
        edge(26, "'x', 'e', 'p', 'u', 'w', 'f', 'c' or 'n'", () -> {
            Urelementary x = made(EdgesTest::threeWorlds);
            StringBuilder got = new StringBuilder();
            for (int w = 0; w < 3; w++) for (char c : "xepuwfcn".toCharArray()) got.append(x.axiom(w, c) ? c : '-');
            due("xe-u-fcn" + "xe-u-fcn" + "xe-u-fc-", got.toString());
        });
        edge(26, "Throws `IllegalArgumentException` if there is no such axiom", () ->
            refuses(ARGUMENT, EdgesTest::threeWorlds, each(signsBut("xepuwfcn"), c -> y -> y.axiom(0, c))));
        pair(26, BOUNDS, ARGUMENT, EdgesTest::threeWorlds, each(bad(3), n -> y -> y.axiom(n, 'y')));
    }

    private static void promisesOfAtoms() {
        for (int number : new int[] {27, 29}) {
            edge(number, "another one, or the same one", () -> {
                Urelementary x = made(EdgesTest::threeAtoms);
                for (int i = 0; i < 9; i++) for (int a = 0; a < 3; a++) {
                    if (number == 27) due(true, x.isFixed(i, a, a));
                    else due(i, x.swapped(i, a, a));
                }
            });
            edge(number, "Throws `IndexOutOfBoundsException` if there is no such thing, for one of them", () -> {
                for (int at = 0; at < 3; at++) {
                    int place = at;
                    refuses(BOUNDS, EdgesTest::threeAtoms, each(bad(9), n -> y -> swap(y, number, place == 0 ? n : 0, place == 1 ? n : 0, place == 2 ? n : 1)));
                    refuses(BOUNDS, EdgesTest::fullThings, each(bad(28), n -> y -> swap(y, number, place == 0 ? n : 9, place == 1 ? n : 2, place == 2 ? n : 3)));
                }
            });
            edge(number, "Throws `IllegalArgumentException` if one of both is no atom", () ->
                refuses(ARGUMENT, EdgesTest::threeAtoms, y -> swap(y, number, 0, 3, 0), y -> swap(y, number, 0, 0, 3), y -> swap(y, number, 5, 7, 7),
                    y -> swap(y, number, 3, 3, 3), y -> swap(y, number, 8, 2, 8)));
            pair(number, BOUNDS, ARGUMENT, EdgesTest::threeAtoms, y -> swap(y, number, 9, 3, 0), y -> swap(y, number, -1, 0, 3), y -> swap(y, number, 0, 9, 3),
                y -> swap(y, number, 0, 3, 9), y -> swap(y, number, 0, 3, -1), y -> swap(y, number, 0, LOWEST, 8));
        }
        edge(28, "Returns its atoms, by their places in the order in which atoms came.", () -> {
            Urelementary x = new Urelementary();
            for (int i = 0; i < 4; i++) {
                x.set(0);
                x.atom();
            }
            for (int i = 0; i < 4; i++) {
                due(1 << i, x.support(2 * i + 1));
                due(0, x.support(2 * i));
            }
        });
        edge(28, "Throws `IndexOutOfBoundsException` if there is no such thing", () -> {
            refuses(BOUNDS, EdgesTest::threeAtoms, each(bad(9), n -> y -> y.support(n)));
            refuses(BOUNDS, EdgesTest::fullThings, each(bad(28), n -> y -> y.support(n)));
        });
        edge(29, "Returns the lowest thing that is equal to what comes of it.", () -> {
            Urelementary x = made(EdgesTest::threeAtoms);
            x.set(1);
            x.set(2);
            due(4, x.swapped(9, 0, 1));
            due(3, x.swapped(10, 0, 1));
            due(3, x.swapped(9, 0, 0));
            due(3, x.swapped(9, 1, 2));
            Urelementary y = made(z -> { z.set(0); z.atom(); z.put(0, 1); z.set(0); z.atom(); z.put(2, 3); z.set(8); });
            due(2, y.swapped(0, 1, 3));
            due(0, y.swapped(4, 1, 3));
        });
        edge(29, "Throws `NoSuchElementException` if there is none", () -> {
            refuses(LACKING, EdgesTest::threeAtoms, y -> y.swapped(3, 0, 2), y -> y.swapped(8, 0, 1), y -> y.swapped(5, 1, 2), y -> y.swapped(4, 2, 1));
            refuses(LACKING, x -> { fullThings(x); x.put(27, 0); }, y -> y.swapped(27, 0, 1), y -> y.swapped(27, 3, 0));
            due(27, made(x -> { fullThings(x); x.put(27, 0); }).swapped(27, 1, 3));
        });
        apart(29, BOUNDS, LACKING, "nothing comes of a thing that is not there");
        apart(29, ARGUMENT, LACKING, "nothing comes of a swap with a set");
    }

    private static Object swap(Urelementary x, int number, int thing, int one, int other) {
        return number == 27 ? (Object) x.isFixed(thing, one, other) : (Object) x.swapped(thing, one, other);
    }

    // ---- promises 30 to 38: names and games

    private static Scene names(int points, int count) {
        return x -> { x.algebra(points); for (int i = 0; i < count; i++) x.name(); };
    }

    private static void promisesOfNames() {
        edge(30, "how many points, 1 to 4", () -> {
            for (int points = 1; points <= 4; points++) due((1 << points) - 1, made(names(points, 1)).valueOf(0, 0, false));
        });
        edge(30, "Begins an algebra anew; all names are gone.", () -> {
            Urelementary x = made(names(4, 12));
            for (int i = 1; i < 12; i++) x.give(i, 0, 15);
            due(12, x.algebra(4));
            due(0, x.algebra(4));
            due("IndexOutOfBoundsException", answer(x, y -> y.nameSupport(0)));
            due(0, x.name());
            due(1, x.name());
            due(15, x.valueOf(0, 1, false));
            due(0, x.give(1, 0, 1));
        });
        edge(30, "Returns how many names there were.", () -> {
            for (int i = 0; i <= 12; i++) due(i, made(names(1, i)).algebra(2));
        });
        edge(30, "Throws `IllegalArgumentException` if a number is out of range", () -> {
            refuses(ARGUMENT, EdgesTest::rich, each(bad(5), n -> y -> y.algebra(n)));
            refuses(ARGUMENT, EdgesTest::nothing, y -> y.algebra(0), y -> y.algebra(5));
        });
        edge(31, "Adds a name without elements.", () -> {
            Urelementary x = made(names(3, 11));
            for (int i = 1; i < 11; i++) x.give(i, i - 1, 7);
            due(11, x.name());
            for (int i = 0; i < 12; i++) due(0, x.valueOf(i, 11, true));
            due(7, x.valueOf(0, 11, false));
            Urelementary y = new Urelementary();
            for (int i = 0; i < 12; i++) {
                due(i, y.name());
                for (int j = 0; j <= i; j++) due(3, y.valueOf(i, j, false));
                due(0, y.nameSupport(i));
            }
        });
        edge(31, "Throws `IllegalStateException` if there are 12", () -> {
            refuses(STATE, names(4, 12), y -> y.name());
            due(11, made(names(4, 11)).name());
        });
        edge(32, "Returns the value before, 0 if it was none.", () -> {
            Urelementary x = made(names(4, 12));
            due(0, x.give(11, 10, 15));
            due(15, x.give(11, 10, 1));
            due(1, x.give(11, 10, 0));
            due(0, x.give(11, 10, 8));
            due(0, x.give(11, 0, 0));
            due(0, x.give(11, 0, 15));
        });
        edge(32, "the number of an earlier one", () -> {
            Urelementary x = made(names(1, 12));
            for (int i = 0; i < 12; i++) for (int j = 0; j < 12; j++) {
                int name = i;
                int element = j;
                due(j < i ? "0" : "IllegalArgumentException", answer(x, y -> y.give(name, element, 1)));
            }
        });
        edge(32, "Throws `IndexOutOfBoundsException` if there is no such name, for either", () -> {
            refuses(BOUNDS, EdgesTest::rich, each(bad(3), n -> y -> y.give(n, 0, 1)));
            refuses(BOUNDS, EdgesTest::rich, each(bad(3), n -> y -> y.give(2, n, 1)));
            refuses(BOUNDS, EdgesTest::full, each(bad(12), n -> y -> y.give(n, 0, 1)));
            refuses(BOUNDS, EdgesTest::full, each(bad(12), n -> y -> y.give(11, n, 1)));
        });
        edge(32, "Throws `IllegalArgumentException` if the second one is not earlier, or the value is out of range", () -> {
            refuses(ARGUMENT, EdgesTest::rich, y -> y.give(0, 0, 1), y -> y.give(2, 2, 1), y -> y.give(1, 2, 1), y -> y.give(0, 2, 0));
            for (int points = 1; points <= 4; points++) {
                refuses(ARGUMENT, names(points, 2), each(bad(1 << points), n -> y -> y.give(1, 0, n)));
                due(0, made(names(points, 2)).give(1, 0, (1 << points) - 1));
            }
        });
        pair(32, BOUNDS, ARGUMENT, EdgesTest::rich, y -> y.give(3, 0, 8), y -> y.give(-1, 0, 1), y -> y.give(2, 3, 1), y -> y.give(2, 3, -1), y -> y.give(3, 3, 1),
            y -> y.give(2, -1, 8));
    }

    private static void promisesOfValues() {
        edge(33, "the number of another one, or the same one", () -> {
            Urelementary x = made(EdgesTest::full);
            for (int i = 0; i < 12; i++) {
                due(15, x.valueOf(i, i, false));
                due(0, x.valueOf(i, i, true));
            }
        });
        edge(33, "whether that of the first one being an element of the other one, otherwise that of both being equal", () -> {
            Urelementary x = made(names(2, 3));
            x.give(1, 0, 1);
            x.give(2, 1, 2);
            due(1, x.valueOf(0, 1, true));
            due(0, x.valueOf(1, 0, true));
            due(2, x.valueOf(0, 1, false));
            due(2, x.valueOf(1, 0, false));
            due(2, x.valueOf(0, 2, true));
            due(1, x.valueOf(0, 2, false));
        });
        edge(33, "Throws `IndexOutOfBoundsException` if there is no such name, for either", () -> {
            for (boolean isElement : new boolean[] {true, false}) {
                refuses(BOUNDS, EdgesTest::rich, each(bad(3), n -> y -> y.valueOf(n, 0, isElement)));
                refuses(BOUNDS, EdgesTest::rich, each(bad(3), n -> y -> y.valueOf(0, n, isElement)));
                refuses(BOUNDS, EdgesTest::full, each(bad(12), n -> y -> y.valueOf(n, n, isElement)));
            }
        });
        edge(34, "the lowest one that is equal to it, or a new one, behind new ones for the names that are in it at this point, however deep, by rising names, where such things lack.", () -> {
            Urelementary x = made(names(2, 5));
            x.give(1, 0, 3);
            x.give(2, 1, 3);
            x.give(3, 0, 3);
            x.give(3, 1, 3);
            x.give(4, 3, 3);
            x.give(4, 2, 3);
            x.give(4, 1, 1);
            x.atom();
            due(5, x.quotient(4, 0));
            due(6, x.things());
            due(0, x.size(1));
            due(2, x.inside(2));
            due(4 | 2, x.inside(3));
            due(2 | 4, x.inside(4));
            due(4 | 8 | 16 | 2, x.inside(5));
            due(3, x.size(5));
            due(6, x.quotient(4, 1));
            due(2, x.size(6));
            due(7, x.things());
            for (int i = 0; i < 4; i++) due(i + 1, x.quotient(i, 1));
            due(6, x.quotient(4, 1));
            due(7, x.things());
            Urelementary y = made(names(2, 4));
            y.give(1, 0, 3);
            y.give(2, 1, 3);
            y.give(3, 2, 2);
            due(0, y.quotient(3, 0));
            due(1, y.things());
            due(3, y.quotient(3, 1));
            due(4, y.things());
            Urelementary z = made(names(1, 4));
            z.give(2, 0, 1);
            z.give(2, 1, 1);
            z.give(3, 1, 1);
            due(1, z.quotient(2, 0));
            due(2, z.things());
            due(1, z.inside(1));
            due(1, z.quotient(3, 0));
            due(0, z.quotient(1, 0));
            due(2, z.things());
        });
        edge(34, "Returns the number of the thing", () -> {
            Urelementary x = made(names(1, 3));
            x.give(1, 0, 1);
            x.give(2, 0, 1);
            x.give(2, 1, 1);
            x.set(0);
            x.put(0, 0);
            x.set(0);
            x.set(0);
            due(1, x.quotient(0, 0));
            x.put(1, 1);
            due(2, x.quotient(0, 0));
            x.put(2, 2);
            due(3, x.quotient(0, 0));
            due(5, x.quotient(2, 0));
            due(8, x.inside(4));
            due(4, x.quotient(1, 0));
            due(6, x.things());
        });
        edge(34, "Throws `IndexOutOfBoundsException` if there is no such name", () -> {
            refuses(BOUNDS, EdgesTest::rich, each(bad(3), n -> y -> y.quotient(n, 0)));
            refuses(BOUNDS, EdgesTest::full, each(bad(12), n -> y -> y.quotient(n, 0)));
        });
        edge(34, "Throws `IllegalArgumentException` if there is no such point", () -> {
            for (int points = 1; points <= 4; points++) {
                refuses(ARGUMENT, names(points, 1), each(bad(points), n -> y -> y.quotient(0, n)));
                due(0, made(names(points, 1)).quotient(0, points - 1));
            }
        });
        edge(34, "Throws `IllegalStateException` if there would be more than 28 things", () -> {
            Scene names = x -> { x.algebra(1); for (int i = 0; i < 12; i++) { x.name(); if (i > 0) x.give(i, i - 1, 1); } };
            for (int free = 0; free <= 12; free++) {
                int room = free;
                Scene scene = x -> { names.make(x); for (int i = 0; i < 28 - room; i++) { x.set(0); x.put(i, i); } };
                if (free < 12) refuses(STATE, scene, y -> y.quotient(room, 0), y -> y.quotient(11, 0));
                Urelementary x = made(scene);
                if (free > 0) due(27, x.quotient(free - 1, 0));
                due(28, x.things());
            }
        });
        pair(34, ARGUMENT, STATE, EdgesTest::full, each(bad(4), n -> y -> y.quotient(11, n)));
        pair(34, BOUNDS, ARGUMENT, EdgesTest::rich, each(bad(3), n -> y -> y.quotient(n, n)));
        apart(34, BOUNDS, STATE, "a name that is not there makes no things");
        edge(35, "Returns the points at which its quotient is not equal to that at the point 0.", () -> {
            for (int points = 1; points <= 4; points++) for (int value = 0; value < 1 << points; value++) {
                Urelementary x = made(names(points, 2));
                x.give(1, 0, value);
                due((value & 1) == 0 ? value : (1 << points) - 1 & ~value, x.nameSupport(1));
                due(0, x.nameSupport(0));
            }
        });
        edge(35, "Throws `IndexOutOfBoundsException` if there is no such name", () -> {
            refuses(BOUNDS, EdgesTest::rich, each(bad(3), n -> y -> y.nameSupport(n)));
            refuses(BOUNDS, EdgesTest::full, each(bad(12), n -> y -> y.nameSupport(n)));
        });
    }


    private static void promisesOfGames() {
        edge(36, "the depth, 1 to 5", () -> {
            Urelementary x = new Urelementary();
            int before = 1;
            for (int depth : new int[] {5, 1, 4, 2, 3, 3}) {
                due(before, x.tree(depth, 0));
                due(false, x.firstWins(depth, (1 << depth) - 1));
                before = depth;
            }
        });
        edge(36, "the rows that the first side wins, as bits; all 32 bits count at the depth 5", () -> {
            for (int bit = 0; bit < 32; bit++) {
                Urelementary x = new Urelementary();
                x.tree(5, 1 << bit);
                for (int row = 0; row < 32; row++) due(row == bit, x.firstWins(5, row));
            }
            Urelementary x = new Urelementary();
            due(1, x.tree(5, LOWEST));
            due(5, x.tree(5, HIGHEST));
            due(false, x.firstWins(5, 31));
            due(true, x.firstWins(5, 30));
            due(5, x.tree(5, -1));
            due(true, x.firstWins(0, 0));
        });
        edge(36, "Returns the depth before.", () -> {
            Urelementary x = new Urelementary();
            due(1, x.tree(1, 3));
            due(1, x.tree(5, 0));
            due(5, x.tree(2, 0));
        });
        edge(36, "Throws `IllegalArgumentException` if the depth is out of range, or there are no such rows at a lesser depth", () -> {
            refuses(ARGUMENT, EdgesTest::rich, each(bad(6), n -> y -> y.tree(n, 0)));
            refuses(ARGUMENT, EdgesTest::rich, y -> y.tree(0, 0), y -> y.tree(0, 1), y -> y.tree(6, -1));
            for (int d = 1; d < 5; d++) {
                int depth = d;
                refuses(ARGUMENT, EdgesTest::rich, each(new int[] {1 << (1 << d), 1 << (1 << d) | 1, -1, LOWEST, LOWEST | 1, HIGHEST}, n -> y -> y.tree(depth, n)));
                due(1, new Urelementary().tree(depth, (1 << (1 << d)) - 1));
            }
        });
        edge(37, "how many moves were made, from 0 to the depth", () -> {
            for (int depth = 1; depth <= 5; depth++) {
                Urelementary x = new Urelementary();
                x.tree(depth, depth == 5 ? -1 : (1 << (1 << depth)) - 1);
                for (int moves = 0; moves <= depth; moves++) for (int row = 0; row < 1 << moves; row++) due(true, x.firstWins(moves, row));
                x.tree(depth, 0);
                for (int moves = 0; moves <= depth; moves++) for (int row = 0; row < 1 << moves; row++) due(false, x.firstWins(moves, row));
            }
        });
        edge(37, "Throws `IllegalArgumentException` if a number is out of range", () -> {
            for (int d = 1; d <= 5; d++) {
                int depth = d;
                Scene scene = x -> { rich(x); x.tree(depth, depth); };
                refuses(ARGUMENT, scene, each(bad(depth + 1), n -> y -> y.firstWins(n, 0)));
                for (int m = 0; m <= depth; m++) {
                    int moves = m;
                    refuses(ARGUMENT, scene, each(bad(1 << moves), n -> y -> y.firstWins(moves, n)));
                }
            }
        });
        edge(38, "Returns the lesser move by which the side that moves goes on to win.", () -> {
            for (int won = 0; won < 16; won++) {
                Urelementary x = new Urelementary();
                x.tree(2, won);
                for (int first = 0; first < 2; first++) {
                    int row = first;
                    int two = won >> 2 * first & 3;
                    due((two & 1) == 0 ? "0" : two == 1 ? "1" : "NoSuchElementException", answer(x, y -> y.move(1, row)));
                }
                due((won & 3) == 3 ? "0" : (won & 12) == 12 ? "1" : "NoSuchElementException", answer(x, y -> y.move(0, 0)));
            }
        });
        edge(38, "Throws `IllegalArgumentException` if a number is out of range, or all moves were made", () -> {
            for (int d = 1; d <= 5; d++) {
                int depth = d;
                Scene scene = x -> { rich(x); x.tree(depth, 3); };
                refuses(ARGUMENT, scene, each(bad(depth), n -> y -> y.move(n, 0)));
                for (int m = 0; m <= depth; m++) {
                    int moves = m;
                    refuses(ARGUMENT, scene, each(bad(1 << moves), n -> y -> y.move(moves, n)));
                }
                refuses(ARGUMENT, scene, y -> y.move(depth, (1 << depth) - 1));
            }
        });
        edge(38, "Throws `NoSuchElementException` if it has no strategy", () -> {
            refuses(LACKING, EdgesTest::nothing, y -> y.move(0, 0));
            refuses(LACKING, x -> x.tree(5, -1), y -> y.move(1, 0), y -> y.move(1, 1), y -> y.move(3, 7));
            refuses(LACKING, x -> x.tree(5, 0), y -> y.move(0, 0), y -> y.move(2, 3), y -> y.move(4, 15));
            due(0, made(x -> x.tree(5, 0)).move(1, 0));
            due(0, made(x -> x.tree(5, -1)).move(4, 15));
        });
        apart(38, ARGUMENT, LACKING, "without a place in the tree there is no side that moves");
    }

    // ---- promises 39 to 43: ordinals

    private static void promisesOfOrdinals() {
        edge(39, "the coefficient of the power 0, 0 to 999", () -> {
            Urelementary x = new Urelementary();
            isOrdinal(x, x.ordinal(0, 0, 0, 0));
            isOrdinal(x, x.ordinal(999, 999, 999, 999), 999, 999, 999, 999);
            isOrdinal(x, x.ordinal(999, 0, 0, 0), 999);
        });
        edge(39, "that of the power 1", () -> isOrdinal(made(x -> x.ordinal(0, 999, 0, 0)), 0, 0, 999));
        edge(39, "that of the power 2", () -> isOrdinal(made(x -> x.ordinal(0, 0, 999, 0)), 0, 0, 0, 999));
        edge(39, "that of the power 3", () -> isOrdinal(made(x -> x.ordinal(0, 0, 0, 999)), 0, 0, 0, 0, 999));
        edge(39, "Throws `IllegalArgumentException` if a number is out of range", () -> {
            refuses(ARGUMENT, EdgesTest::rich, each(bad(1000), n -> y -> n == 64 || n == 255 || n == 256 ? y.ordinal(1000, 0, 0, 0) : y.ordinal(n, 0, 0, 0)));
            refuses(ARGUMENT, EdgesTest::rich, each(bad(1000), n -> y -> n == 64 || n == 255 || n == 256 ? y.ordinal(0, 1000, 0, 0) : y.ordinal(0, n, 0, 0)));
            refuses(ARGUMENT, EdgesTest::rich, each(bad(1000), n -> y -> n == 64 || n == 255 || n == 256 ? y.ordinal(0, 0, 1000, 0) : y.ordinal(0, 0, n, 0)));
            refuses(ARGUMENT, EdgesTest::rich, each(bad(1000), n -> y -> n == 64 || n == 255 || n == 256 ? y.ordinal(0, 0, 0, 1000) : y.ordinal(0, 0, 0, n)));
        });
        edge(39, "Throws `IllegalStateException` if there are 20", () -> {
            refuses(STATE, EdgesTest::full, y -> y.ordinal(0, 0, 0, 0), y -> y.ordinal(999, 999, 999, 999));
            Urelementary x = new Urelementary();
            for (int i = 0; i < 20; i++) due(i, x.ordinal(999, 0, 0, i));
        });
        pair(39, ARGUMENT, STATE, EdgesTest::full, y -> y.ordinal(1000, 0, 0, 0), y -> y.ordinal(0, -1, 0, 0), y -> y.ordinal(0, 0, 1000, 0), y -> y.ordinal(0, 0, 0, LOWEST));
        edge(40, "the power, 0 to 7", () -> {
            Urelementary x = made(EdgesTest::greatOrdinals);
            due(1, x.coefficient(10, 7));
            due(0, x.coefficient(10, 0));
            due(99999, x.coefficient(8, 0));
            due(0, x.coefficient(8, 7));
        });
        edge(40, "Throws `IndexOutOfBoundsException` if there is no such ordinal", () -> {
            refuses(BOUNDS, EdgesTest::rich, each(bad(3), n -> y -> y.coefficient(n, 0)));
            refuses(BOUNDS, EdgesTest::full, each(bad(20), n -> y -> y.coefficient(n, 7)));
        });
        edge(40, "Throws `IllegalArgumentException` if a number is out of range", () ->
            refuses(ARGUMENT, EdgesTest::rich, each(bad(8), n -> y -> y.coefficient(0, n))));
        pair(40, BOUNDS, ARGUMENT, EdgesTest::rich, each(bad(8), n -> y -> y.coefficient(3, n)));
        edge(41, "the number of another one, or the same one", () -> {
            Urelementary x = made(EdgesTest::full);
            for (int i = 0; i < 20; i++) due(0, x.compare(i, i));
        });
        edge(41, "Returns 1 if the first one is greater, -1 if the other one is, 0 if they are alike.", () -> {
            Urelementary x = made(EdgesTest::greatOrdinals);
            int[] rising = {3, 5, 6, 2, 1, 7, 8, 0, 4, 9, 10};
            for (int i = 0; i < rising.length; i++) for (int j = 0; j < rising.length; j++) due(i > j ? 1 : i < j ? -1 : 0, x.compare(rising[i], rising[j]));
            due(11, x.ordinal(0, 1, 0, 0));
            due(0, x.compare(0, 11));
            due(12, x.ordinal(1, 1, 0, 0));
            due(-1, x.compare(0, 12));
            due(13, x.ordinal(999, 999, 999, 0));
            due(1, x.compare(4, 13));
        });
        edge(41, "Throws `IndexOutOfBoundsException` if there is no such ordinal, for either", () -> {
            refuses(BOUNDS, EdgesTest::rich, each(bad(3), n -> y -> y.compare(n, 0)));
            refuses(BOUNDS, EdgesTest::rich, each(bad(3), n -> y -> y.compare(0, n)));
            refuses(BOUNDS, EdgesTest::full, each(bad(20), n -> y -> y.compare(n, n)));
        });
        promisesOfReckoning();
    }

    private static void promisesOfReckoning() {
        edge(42, "the number of another one, or the same one", () -> {
            Urelementary x = made(EdgesTest::rich);
            isOrdinal(x, x.reckon(0, 0, false), 1, 2, 3, 8);
            isOrdinal(x, x.reckon(0, 0, true), 1, 2, 3, 4, 2, 3, 4);
            isOrdinal(x, x.reckon(2, 2, false));
            isOrdinal(x, x.reckon(2, 2, true));
        });
        for (boolean isProduct : new boolean[] {true, false}) {
            edge(42, "Throws `IndexOutOfBoundsException` if there is no such ordinal, for either", () -> {
                refuses(BOUNDS, EdgesTest::rich, each(bad(3), n -> y -> y.reckon(n, 0, isProduct)));
                refuses(BOUNDS, EdgesTest::rich, each(bad(3), n -> y -> y.reckon(0, n, isProduct)));
                refuses(BOUNDS, EdgesTest::nothing, each(bad(0), n -> y -> y.reckon(n, n, isProduct)));
            });
            pair(42, BOUNDS, STATE, EdgesTest::full, each(bad(20), n -> y -> isProduct ? y.reckon(n, 0, isProduct) : y.reckon(0, n, isProduct)));
        }
        edge(42, "Throws `UnsupportedOperationException` if a power would be greater than 7, or a coefficient than 99999", () -> {
            Scene great = x -> { greatOrdinals(x); x.ordinal(0, 0, 1, 0); x.ordinal(0, 0, 2, 1); x.ordinal(2, 1, 0, 0); };
            refuses(UNSUPPORTED, great, y -> y.reckon(10, 0, true), y -> y.reckon(10, 4, true), y -> y.reckon(10, 10, true), y -> y.reckon(9, 11, true),
                y -> y.reckon(9, 12, true), y -> y.reckon(9, 9, true), y -> y.reckon(8, 5, false), y -> y.reckon(7, 2, false), y -> y.reckon(8, 8, false),
                y -> y.reckon(8, 8, true), y -> y.reckon(8, 13, true), y -> y.reckon(1, 7, true), y -> y.reckon(7, 1, true));
            Urelementary x = made(great);
            isOrdinal(x, x.reckon(9, 0, true), 0, 0, 0, 0, 0, 0, 0, 1);
            isOrdinal(x, x.reckon(3, 10, true));
            isOrdinal(x, x.reckon(8, 10, false), 0, 0, 0, 0, 0, 0, 0, 1);
            isOrdinal(x, x.reckon(8, 13, false), 2, 1);
            isOrdinal(x, x.reckon(7, 6, false), 99999);
        });
        pair(42, UNSUPPORTED, STATE, x -> { greatOrdinals(x); while (true) if (x.ordinal(0, 0, 0, 0) == 19) return; },
            y -> y.reckon(10, 0, true), y -> y.reckon(8, 5, false), y -> y.reckon(8, 8, true));
        apart(42, BOUNDS, UNSUPPORTED, "an ordinal that is not there has no powers");
        edge(42, "Throws `IllegalStateException` if there are 20", () -> {
            refuses(STATE, EdgesTest::full, y -> y.reckon(0, 0, false), y -> y.reckon(0, 1, true), y -> y.reckon(19, 19, false));
            Scene one = x -> { for (int i = 0; i < 19; i++) x.ordinal(0, 0, 0, 0); };
            due(19, made(one).reckon(0, 18, true));
            due(19, made(one).reckon(0, 18, false));
        });
        edge(43, "the number told, 0 to 999", () -> {
            Urelementary x = made(EdgesTest::greatOrdinals);
            isOrdinal(x, x.row(10, 0));
            isOrdinal(x, x.row(10, 1), 0, 0, 0, 0, 0, 0, 1);
            isOrdinal(x, x.row(10, 999), 0, 0, 0, 0, 0, 0, 999);
        });
        edge(43, "Throws `IndexOutOfBoundsException` if there is no such ordinal", () -> {
            refuses(BOUNDS, EdgesTest::rich, each(bad(3), n -> y -> y.row(n, 0)));
            refuses(BOUNDS, EdgesTest::nothing, each(bad(0), n -> y -> y.row(n, 0)));
        });
        edge(43, "Throws `IllegalArgumentException` if a number is out of range", () ->
            refuses(ARGUMENT, EdgesTest::rich, y -> y.row(1, 1000), y -> y.row(1, 1001), y -> y.row(1, -1), y -> y.row(1, LOWEST), y -> y.row(1, HIGHEST), y -> y.row(1, 65536)));
        edge(43, "Throws `NoSuchElementException` if it has no row", () -> {
            refuses(LACKING, EdgesTest::rich, y -> y.row(0, 0), y -> y.row(0, 999), y -> y.row(2, 0), y -> y.row(2, 999));
            isOrdinal(made(EdgesTest::rich), 1, 0, 0, 1);
        });
        edge(43, "Throws `IllegalStateException` if there are 20", () -> {
            refuses(STATE, EdgesTest::full, y -> y.row(1, 0), y -> y.row(19, 999));
            due(19, made(x -> { for (int i = 0; i < 19; i++) x.ordinal(0, 1, 0, 0); }).row(18, 999));
        });
        Scene all = x -> { x.ordinal(0, 0, 0, 0); x.ordinal(1, 1, 0, 0); for (int i = 2; i < 20; i++) x.ordinal(0, 1, 0, 0); };
        pair(43, BOUNDS, ARGUMENT, EdgesTest::rich, y -> y.row(3, 1000), y -> y.row(-1, -1), y -> y.row(3, HIGHEST));
        apart(43, BOUNDS, LACKING, "an ordinal that is not there has neither coefficients nor a row");
        pair(43, BOUNDS, STATE, all, each(bad(20), n -> y -> y.row(n, 0)));
        pair(43, ARGUMENT, LACKING, all, y -> y.row(0, 1000), y -> y.row(1, -1), y -> y.row(1, 1000));
        pair(43, ARGUMENT, STATE, all, y -> y.row(2, 1000), y -> y.row(19, -1));
        pair(43, LACKING, STATE, all, y -> y.row(0, 0), y -> y.row(1, 999));
    }

    // ---- promises 44 to 54: forms, proofs, figures

    private static void promisesOfForms() {
        edge(44, "the form, 0 to 11", () -> {
            for (int i = 0; i < 12; i++) for (int j = 0; j < 12; j++) if (i != j) due(true, new Urelementary().implies(i, j));
        });
        edge(44, "Returns whether that did not follow.", () -> {
            Urelementary x = new Urelementary();
            for (int i = 0; i < 11; i++) due(true, x.implies(i, i + 1));
            for (int i = 0; i < 12; i++) for (int j = i + 1; j < 12; j++) due(false, x.implies(i, j));
            due(true, x.implies(11, 0));
            for (int i = 0; i < 12; i++) for (int j = 0; j < 12; j++) if (i != j) due(false, x.implies(i, j));
        });
        edge(44, "Throws `IllegalArgumentException` if there is no such form, for either, or both are the same", () -> {
            refuses(ARGUMENT, EdgesTest::rich, each(bad(12), n -> y -> y.implies(n, 0)));
            refuses(ARGUMENT, EdgesTest::rich, each(bad(12), n -> y -> y.implies(0, n)));
            refuses(ARGUMENT, EdgesTest::rich, each(new int[] {0, 1, 2, 3, 4, 5, 6, 7, 8, 9, 10, 11, 12, -1}, n -> y -> y.implies(n, n)));
        });
        edge(44, "Throws `UnsupportedOperationException` if a model would have one that holds and fails", () -> {
            refuses(UNSUPPORTED, x -> x.model(1, 1 << 11), y -> y.implies(0, 11));
            refuses(UNSUPPORTED, EdgesTest::full, y -> y.implies(0, 1), y -> y.implies(9, 10));
            refuses(UNSUPPORTED, x -> { for (int i = 0; i < 9; i++) x.model(0, 0); x.model(1, 2); }, y -> y.implies(0, 1));
            due(true, made(EdgesTest::full).implies(1, 0));
            due(true, made(EdgesTest::full).implies(0, 2));
        });
        apart(44, ARGUMENT, UNSUPPORTED, "a form that is not there is in no model, and one implies itself in each");
        edge(45, "the forms that hold in it, the sum of 2 to the power of each", () -> {
            Urelementary x = new Urelementary();
            due(0, x.model(0b101010101010, 0b010101010101));
            for (int i = 0; i < 12; i++) for (int j = 0; j < 12; j++) due(i == j ? 'y' : i % 2 == 1 && j % 2 == 0 ? 'n' : '-', x.known(i, j));
            due(1, x.model(4095, 0));
            due(2, x.model(0, 4095));
            due(3, x.model(0, 0));
        });
        edge(45, "Throws `IllegalArgumentException` if there are no such forms", () -> {
            refuses(ARGUMENT, EdgesTest::rich, each(badMasks(12), n -> y -> y.model(n, 0)));
            refuses(ARGUMENT, EdgesTest::rich, each(badMasks(12), n -> y -> y.model(0, n)));
        });
        edge(45, "Throws `UnsupportedOperationException` if one would hold and fail", () -> {
            refuses(UNSUPPORTED, EdgesTest::nothing, each(new int[] {1, 2, 2048, 4095}, n -> y -> y.model(n, n)));
            refuses(UNSUPPORTED, EdgesTest::rich, y -> y.model(1, 2), y -> y.model(1, 4), y -> y.model(2, 4), y -> y.model(3, 4), y -> y.model(4095, 2048));
            due(2, made(EdgesTest::rich).model(4, 3));
            due(2, made(EdgesTest::rich).model(4095 & ~7, 7));
        });
        edge(45, "Throws `IllegalStateException` if there are 10", () -> {
            refuses(STATE, EdgesTest::full, y -> y.model(0, 0), y -> y.model(4095, 0), y -> y.model(0, 4095));
            due(9, made(x -> { for (int i = 0; i < 9; i++) x.model(0, 0); }).model(4095, 0));
        });
        pair(45, ARGUMENT, UNSUPPORTED, EdgesTest::rich, y -> y.model(4097, 4097), y -> y.model(1, 4098), y -> y.model(-1, -1), y -> y.model(4097, 1));
        pair(45, ARGUMENT, STATE, EdgesTest::full, y -> y.model(4096, 0), y -> y.model(0, LOWEST));
        pair(45, UNSUPPORTED, STATE, EdgesTest::full, y -> y.model(1, 1), y -> y.model(4095, 4095));
        edge(46, "another one, or the same one", () -> {
            Urelementary x = made(EdgesTest::full);
            for (int i = 0; i < 12; i++) for (int j = 0; j < 12; j++) due(i == j ? 'y' : j == i + 1 && i < 10 ? 'n' : '-', x.known(i, j));
        });
        edge(46, "Returns 'y' it follows, 'n' in some model the first one holds and the other one fails, '-' open.", () -> {
            Urelementary x = made(EdgesTest::rich);
            due('y', x.known(0, 2));
            due('n', x.known(3, 4));
            due('n', x.known(2, 0));
            due('-', x.known(2, 1));
            due('-', x.known(4, 3));
            due(true, x.implies(5, 0));
            due('n', x.known(2, 5));
            due('y', x.known(5, 2));
            due(true, x.implies(2, 11));
            due('n', x.known(11, 5));
        });
        edge(46, "Throws `IllegalArgumentException` if there is no such form, for either", () -> {
            refuses(ARGUMENT, EdgesTest::rich, each(bad(12), n -> y -> y.known(n, 11)));
            refuses(ARGUMENT, EdgesTest::rich, each(bad(12), n -> y -> y.known(11, n)));
            refuses(ARGUMENT, EdgesTest::rich, each(bad(12), n -> y -> y.known(n, n)));
        });
    }

    private static void promisesOfProofs() {
        edge(47, "the statements, the sum of 2 to the power of each", () -> {
            for (int i = 0; i < 30; i++) {
                Urelementary x = new Urelementary();
                x.rule(1 << i, (i + 1) % 30, false);
                due(false, x.isProved((i + 1) % 30, true));
                x.rule(0, i, false);
                due(true, x.isProved((i + 1) % 30, false));
            }
            due(0, new Urelementary().rule((1 << 30) - 1, 0, true));
        });
        edge(47, "the statement, 0 to 29", () -> {
            Urelementary x = new Urelementary();
            due(0, x.rule(0, 0, false));
            due(1, x.rule(0, 29, false));
            for (int i = 0; i < 30; i++) due(i == 0 || i == 29, x.isProved(i, true));
        });
        edge(47, "Throws `IllegalArgumentException` if there are no such statements", () -> {
            refuses(ARGUMENT, EdgesTest::rich, each(bad(30), n -> y -> y.rule(0, n, true)));
            refuses(ARGUMENT, EdgesTest::rich, each(new int[] {1 << 30, 1 << 30 | 1, LOWEST, LOWEST | 1, -1, HIGHEST, 3 << 30}, n -> y -> y.rule(n, 0, false)));
        });
        edge(47, "Throws `IllegalStateException` if there are 40", () -> {
            refuses(STATE, EdgesTest::full, y -> y.rule(0, 0, false), y -> y.rule((1 << 30) - 1, 29, true));
            due(39, made(x -> { for (int i = 0; i < 39; i++) x.rule(0, 0, true); }).rule(1, 1, true));
        });
        pair(47, ARGUMENT, STATE, EdgesTest::full, y -> y.rule(0, 30, false), y -> y.rule(0, -1, false), y -> y.rule(1 << 30, 0, false), y -> y.rule(-1, 0, true));
        edge(48, "whether rules that use choice are allowed", () -> {
            Urelementary x = made(EdgesTest::rich);
            boolean[] with = {true, true, true, false, false, false, false};
            for (int i = 0; i < 7; i++) {
                due(with[i], x.isProved(i, true));
                due(i == 0, x.isProved(i, false));
            }
        });
        edge(48, "Throws `IllegalArgumentException` if there is no such statement", () -> {
            refuses(ARGUMENT, EdgesTest::full, each(bad(30), n -> y -> y.isProved(n, true)));
            refuses(ARGUMENT, EdgesTest::full, each(bad(30), n -> y -> y.isProved(n, false)));
        });
        edge(49, "Returns the fewest uses of choice in a proof.", () -> {
            Urelementary x = made(EdgesTest::rich);
            due(0, x.uses(0));
            due(1, x.uses(1));
            due(2, x.uses(2));
            x.rule(0, 2, true);
            due(1, x.uses(2));
            x.rule(1, 2, false);
            due(0, x.uses(2));
            Urelementary y = new Urelementary();
            for (int i = 0; i < 29; i++) y.rule(1 << i, i + 1, true);
            y.rule(0, 0, true);
            due(30, y.uses(29));
            y.rule(0, 15, false);
            due(14, y.uses(29));
            due(15, y.uses(14));
        });
        edge(49, "Throws `IllegalArgumentException` if there is no such statement", () ->
            refuses(ARGUMENT, EdgesTest::full, each(bad(30), n -> y -> y.uses(n))));
        edge(49, "Throws `NoSuchElementException` if it cannot be proved", () -> {
            refuses(LACKING, EdgesTest::rich, y -> y.uses(3), y -> y.uses(5), y -> y.uses(6), y -> y.uses(29));
            refuses(LACKING, x -> { x.rule(1, 0, false); x.rule(2, 2, true); x.rule(4, 1, false); }, y -> y.uses(0), y -> y.uses(1), y -> y.uses(2));
        });
        apart(49, ARGUMENT, LACKING, "a statement that is not there is no statement that cannot be proved");
        edge(50, "Returns whether all that can be proved can be proved without a rule.", () -> {
            Urelementary x = made(EdgesTest::rich);
            boolean[] want = {false, false, false, true};
            for (int i = 0; i < 4; i++) due(want[i], x.isSpare(i));
            due(4, x.rule(0, 0, true));
            due(true, x.isSpare(0));
            due(true, x.isSpare(4));
            due(false, x.isSpare(1));
            Urelementary y = new Urelementary();
            y.rule(0, 0, false);
            y.rule(1, 0, false);
            due(false, y.isSpare(0));
            due(true, y.isSpare(1));
        });
        edge(50, "Throws `IndexOutOfBoundsException` if there is no such rule", () -> {
            refuses(BOUNDS, EdgesTest::rich, each(bad(4), n -> y -> y.isSpare(n)));
            refuses(BOUNDS, EdgesTest::full, each(bad(40), n -> y -> y.isSpare(n)));
            refuses(BOUNDS, EdgesTest::nothing, each(bad(0), n -> y -> y.isSpare(n)));
        });
    }

    private static void promisesOfFigures() {
        edge(51, "Returns the number of things.", () -> {
            due(0, new Urelementary().things());
            due(28, made(EdgesTest::full).things());
            due(7, made(EdgesTest::rich).things());
        });
        edge(52, "Returns their number divided by 132, both converted to float.", () -> {
            Urelementary x = new Urelementary();
            due(0f, x.knownShare());
            due(true, x.implies(3, 4));
            due((float) 1 / (float) 132, x.knownShare());
            x.model(1 << 4, 1 << 3);
            due((float) 2 / (float) 132, x.knownShare());
            due((float) 10 / (float) 132, made(EdgesTest::full).knownShare());
            Urelementary y = new Urelementary();
            y.model(63, 4095 & ~63);
            due((float) 36 / (float) 132, y.knownShare());
            for (int i = 0; i < 12; i++) {
                Urelementary z = y;
                int form = i;
                if (i != 5 && i != 11) due(true, z.implies(form, form + 1));
            }
            due(true, y.implies(5, 0));
            due(true, y.implies(11, 6));
            due((float) 96 / (float) 132, y.knownShare());
            due(true, y.implies(6, 0));
            due(1f, y.knownShare());
        });
        edge(53, "Returns the sum divided by the number of sets, both converted to double.", () -> {
            due(1.0 * (0 + 2 + 1 + 2 + 1) / 5.0, made(EdgesTest::rich).meanSize());
            due(23.0 / 24.0, made(EdgesTest::fullThings).meanSize());
            due(0.0, made(x -> x.set(0)).meanSize());
            due(1.0 / 3.0, made(x -> { x.set(0); x.set(0); x.set(3); }).meanSize());
            Urelementary all = made(x -> { for (int i = 0; i < 28; i++) x.set((1 << i) - 1); });
            due(378.0 / 28.0, all.meanSize());
            due(3.0 / 2.0, made(x -> { x.set(0); x.set(0); x.put(0, 0); x.put(0, 1); x.put(1, 0); x.atom(); x.put(0, 2); }).meanSize() - 0.5);
        });
        edge(53, "Throws `NoSuchElementException` if there are none", () -> {
            refuses(LACKING, EdgesTest::nothing, y -> y.meanSize());
            refuses(LACKING, x -> { for (int i = 0; i < 4; i++) x.atom(); }, y -> y.meanSize());
            due(0.0, made(x -> { for (int i = 0; i < 4; i++) x.atom(); x.set(0); }).meanSize());
        });
        edge(54, "Returns whether all of this is true.", () -> {
            due(true, new Urelementary().isSound());
            due(true, made(EdgesTest::rich).isSound());
            due(true, made(EdgesTest::full).isSound());
            due(true, made(EdgesTest::fullThings).isSound());
            due(true, made(x -> { for (int i = 0; i < 28; i++) { x.set(0); x.put(i, i); } }).isSound());
        });
    }

    public static void main(String[] args) throws IOException {
        readDocument();
        Runnable[] all = {EdgesTest::termsOfThings, EdgesTest::termsOfFormulas, EdgesTest::termsOfWorlds, EdgesTest::termsOfAxioms, EdgesTest::termsOfAtoms,
            EdgesTest::termsOfNames, EdgesTest::termsOfGames, EdgesTest::termsOfOrdinals, EdgesTest::termsOfForms, EdgesTest::termsOfProofs,
            EdgesTest::termsOfExceptions, EdgesTest::promiseOne, EdgesTest::promisesOfMaking, EdgesTest::promisesOfTelling, EdgesTest::promisesOfCodes,
            EdgesTest::promisesOfSums, EdgesTest::promisesOfTexts, EdgesTest::promisesOfTypes, EdgesTest::promisesOfWorlds, EdgesTest::promisesOfWeighing,
            EdgesTest::promisesOfAtoms, EdgesTest::promisesOfNames, EdgesTest::promisesOfValues, EdgesTest::promisesOfGames, EdgesTest::promisesOfOrdinals,
            EdgesTest::promisesOfForms, EdgesTest::promisesOfProofs, EdgesTest::promisesOfFigures, EdgesTest::weighQuotes};
        for (Runnable each : all) each.run();
        System.out.println(sentences + " sentences, " + checks + " checks, " + wrong + " wrong");
        if (wrong != 0) System.exit(1);
    }
}
