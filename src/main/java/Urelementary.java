import java.util.Arrays;
import java.util.NoSuchElementException;

/** A theatre of set worlds: the parts inside keep the state, the face refuses what the document refuses. */
public final class Urelementary {
    private static final int MOST_THINGS = 28;
    private static final int MOST_ATOMS = 4;
    private static final int MOST_SIGNS = 40;
    private static final int MOST_WORLDS = 8;
    private static final int MOST_NAMES = 12;
    private static final int MOST_POINTS = 4;
    private static final int MOST_DEPTH = 5;
    private static final int MOST_ORDINALS = 20;
    private static final int POWERS = 8;
    private static final int MOST_TOLD = 999;
    private static final int MOST_COEFFICIENT = 99999;
    private static final int FORMS = 12;
    private static final int MOST_MODELS = 10;
    private static final int STATEMENTS = 30;
    private static final int MOST_RULES = 40;
    private static final int VARIABLES = 5;
    private static final String VARIABLE_SIGNS = "pqrst";
    private static final String SIGNS = "pqrste=a!&|AEBS";
    private static final String AXIOMS = "xepuwfcn";
    private static final int FORM_PAIRS = 132;

    private final Things things;
    private final Formula formula;
    private final Scale scale;
    private final Axioms axioms;
    private final int[] worlds;
    private int worldCount;
    private final Names names;
    private final Game game;
    private final Ordinals ordinals;
    private final Forms forms;
    private final Proofs proofs;

    public Urelementary() {
        things = new Things();
        formula = new Formula();
        scale = new Scale(things, formula);
        axioms = new Axioms(things);
        worlds = new int[MOST_WORLDS];
        names = new Names();
        game = new Game();
        ordinals = new Ordinals();
        forms = new Forms();
        proofs = new Proofs();
    }

    // ---- things

    public int atom() throws IllegalStateException {
        if (things.isFull() || Integer.bitCount(things.atoms) >= MOST_ATOMS) {
            throw new IllegalStateException("no room for an atom");
        }
        return things.addAtom();
    }

    public int set(int elements) throws IndexOutOfBoundsException, IllegalStateException {
        if (!areBelow(elements, things.count)) {
            throw new IndexOutOfBoundsException("no such thing");
        }
        if (things.isFull()) {
            throw new IllegalStateException("no room for a thing");
        }
        return things.addSet(elements);
    }

    public boolean put(int set, int element) throws IndexOutOfBoundsException, UnsupportedOperationException {
        if (!isBelow(set, things.count) || !isBelow(element, things.count)) {
            throw new IndexOutOfBoundsException("no such thing");
        }
        if (things.isAtom(set)) {
            throw new UnsupportedOperationException("an atom has no elements");
        }
        return things.addElement(set, element);
    }

    public boolean areEqual(int one, int other) throws IndexOutOfBoundsException {
        if (!isBelow(one, things.count) || !isBelow(other, things.count)) {
            throw new IndexOutOfBoundsException("no such thing");
        }
        return things.areAlike(one, other);
    }

    public boolean isElement(int element, int set) throws IndexOutOfBoundsException {
        if (!isBelow(element, things.count) || !isBelow(set, things.count)) {
            throw new IndexOutOfBoundsException("no such thing");
        }
        return things.isMember(element, set);
    }

    public int size(int thing) throws IndexOutOfBoundsException {
        if (!isBelow(thing, things.count)) {
            throw new IndexOutOfBoundsException("no such thing");
        }
        return things.unlikeMembers(thing);
    }

    public boolean isFounded(int thing) throws IndexOutOfBoundsException {
        if (!isBelow(thing, things.count)) {
            throw new IndexOutOfBoundsException("no such thing");
        }
        return things.rankOf(thing) >= 0;
    }

    public int rank(int thing) throws IndexOutOfBoundsException, NoSuchElementException {
        if (!isBelow(thing, things.count)) {
            throw new IndexOutOfBoundsException("no such thing");
        }
        int rank = things.rankOf(thing);
        if (rank < 0) {
            throw new NoSuchElementException("not founded");
        }
        return rank;
    }

    public long code(int thing) throws IndexOutOfBoundsException, NoSuchElementException, IllegalStateException {
        if (!isBelow(thing, things.count)) {
            throw new IndexOutOfBoundsException("no such thing");
        }
        long code = things.codeOf(thing);
        if (code == Things.NO_CODE) {
            throw new NoSuchElementException("not founded, or not without atoms");
        }
        if (code == Things.GREAT_CODE) {
            throw new IllegalStateException("the code of an element is too great");
        }
        return code;
    }

    public int inside(int thing) throws IndexOutOfBoundsException {
        if (!isBelow(thing, things.count)) {
            throw new IndexOutOfBoundsException("no such thing");
        }
        return things.reachedFrom(thing);
    }

    public boolean isTransitive(int thing) throws IndexOutOfBoundsException {
        if (!isBelow(thing, things.count)) {
            throw new IndexOutOfBoundsException("no such thing");
        }
        return things.holdsItsDepth(thing);
    }

    public int sum(int thing) throws IndexOutOfBoundsException, UnsupportedOperationException, IllegalStateException {
        if (!isBelow(thing, things.count)) {
            throw new IndexOutOfBoundsException("no such thing");
        }
        if (things.isAtom(thing)) {
            throw new UnsupportedOperationException("an atom has no sum");
        }
        if (things.isFull()) {
            throw new IllegalStateException("no room for a thing");
        }
        return things.addSet(things.toldOfTold(thing));
    }

    // ---- formulas

    public int type(char sign) throws IllegalArgumentException, IllegalStateException {
        if (SIGNS.indexOf(sign) < 0) {
            throw new IllegalArgumentException("no such sign");
        }
        if (formula.length >= MOST_SIGNS) {
            throw new IllegalStateException("the text is full");
        }
        return formula.append(sign);
    }

    public int wipe() {
        return formula.clear();
    }

    public int fault() {
        return formula.firstFault();
    }

    public int free() throws IllegalArgumentException {
        if (!formula.isWhole()) {
            throw new IllegalArgumentException("no formula");
        }
        return formula.free[0];
    }

    public boolean isBounded() throws IllegalArgumentException {
        if (!formula.isWhole()) {
            throw new IllegalArgumentException("no formula");
        }
        return formula.hasNoFullRange();
    }

    public boolean isStratified() throws IllegalArgumentException {
        if (!formula.isWhole()) {
            throw new IllegalArgumentException("no formula");
        }
        return formula.hasTypes();
    }

    public int typeOf(char variable) throws IllegalArgumentException, NoSuchElementException {
        int place = VARIABLE_SIGNS.indexOf(variable);
        if (place < 0 || !formula.isWhole()) {
            throw new IllegalArgumentException("no formula, or no such variable");
        }
        if (!formula.hasTypes() || !has(formula.standing, place)) {
            throw new NoSuchElementException("no type");
        }
        return formula.types[place];
    }

    public int value(char variable, int thing) throws IllegalArgumentException, IndexOutOfBoundsException {
        int place = VARIABLE_SIGNS.indexOf(variable);
        if (place < 0) {
            throw new IllegalArgumentException("no such variable");
        }
        if (!isBelow(thing, things.count)) {
            throw new IndexOutOfBoundsException("no such thing");
        }
        return formula.tell(place, thing);
    }

    // ---- worlds

    public int world(int things) throws IndexOutOfBoundsException, IllegalArgumentException, IllegalStateException {
        if (!areBelow(things, this.things.count)) {
            throw new IndexOutOfBoundsException("no such thing");
        }
        if (things == 0) {
            throw new IllegalArgumentException("a world has things");
        }
        if (worldCount >= MOST_WORLDS) {
            throw new IllegalStateException("no room for a world");
        }
        int number = worldCount;
        worlds[number] = things;
        worldCount = number + 1;
        return number;
    }

    public boolean holds(int world)
            throws IndexOutOfBoundsException, IllegalArgumentException, UnsupportedOperationException {
        if (!isBelow(world, worldCount)) {
            throw new IndexOutOfBoundsException("no such world");
        }
        if (!formula.isWhole()) {
            throw new IllegalArgumentException("no formula");
        }
        if (!formula.areTold(formula.free[0], worlds[world])) {
            throw new UnsupportedOperationException("a variable has no value in the world");
        }
        return scale.isTrueIn(worlds[world]);
    }

    public int satisfy(int world, char variable)
            throws IndexOutOfBoundsException, IllegalArgumentException, UnsupportedOperationException {
        if (!isBelow(world, worldCount)) {
            throw new IndexOutOfBoundsException("no such world");
        }
        int place = VARIABLE_SIGNS.indexOf(variable);
        if (place < 0 || !formula.isWhole()) {
            throw new IllegalArgumentException("no formula, or no such variable");
        }
        if (!formula.areTold(formula.free[0] & ~(1 << place), worlds[world])) {
            throw new UnsupportedOperationException("another variable has no value in the world");
        }
        return scale.countIn(worlds[world], place);
    }

    public boolean isAbsolute(int world, int other)
            throws IndexOutOfBoundsException, IllegalArgumentException, UnsupportedOperationException {
        if (!isBelow(world, worldCount) || !isBelow(other, worldCount)) {
            throw new IndexOutOfBoundsException("no such world");
        }
        if (!formula.isWhole()) {
            throw new IllegalArgumentException("no formula");
        }
        if ((worlds[world] & ~worlds[other]) != 0) {
            throw new UnsupportedOperationException("the other world lacks a thing");
        }
        return scale.agree(worlds[world], worlds[other]);
    }

    public boolean axiom(int world, char axiom) throws IndexOutOfBoundsException, IllegalArgumentException {
        if (!isBelow(world, worldCount)) {
            throw new IndexOutOfBoundsException("no such world");
        }
        if (AXIOMS.indexOf(axiom) < 0) {
            throw new IllegalArgumentException("no such axiom");
        }
        return axioms.isTrueIn(worlds[world], axiom);
    }

    // ---- atoms

    public boolean isFixed(int thing, int one, int other) throws IndexOutOfBoundsException, IllegalArgumentException {
        if (!isBelow(thing, things.count) || !isBelow(one, things.count) || !isBelow(other, things.count)) {
            throw new IndexOutOfBoundsException("no such thing");
        }
        if (!things.isAtom(one) || !things.isAtom(other)) {
            throw new IllegalArgumentException("no atom");
        }
        return things.isKept(thing, one, other);
    }

    public int support(int thing) throws IndexOutOfBoundsException {
        if (!isBelow(thing, things.count)) {
            throw new IndexOutOfBoundsException("no such thing");
        }
        return things.leastSupport(thing);
    }

    public int swapped(int thing, int one, int other)
            throws IndexOutOfBoundsException, IllegalArgumentException, NoSuchElementException {
        if (!isBelow(thing, things.count) || !isBelow(one, things.count) || !isBelow(other, things.count)) {
            throw new IndexOutOfBoundsException("no such thing");
        }
        if (!things.isAtom(one) || !things.isAtom(other)) {
            throw new IllegalArgumentException("no atom");
        }
        int lowest = things.lowestAfterSwap(thing, one, other);
        if (lowest >= things.count) {
            throw new NoSuchElementException("no thing is equal to it");
        }
        return lowest;
    }

    // ---- names

    public int algebra(int points) throws IllegalArgumentException {
        if (points < 1 || points > MOST_POINTS) {
            throw new IllegalArgumentException("1 to 4 points");
        }
        return names.beginAnew(points);
    }

    public int name() throws IllegalStateException {
        if (names.count >= MOST_NAMES) {
            throw new IllegalStateException("no room for a name");
        }
        return names.add();
    }

    public int give(int name, int element, int value) throws IndexOutOfBoundsException, IllegalArgumentException {
        if (!isBelow(name, names.count) || !isBelow(element, names.count)) {
            throw new IndexOutOfBoundsException("no such name");
        }
        if (element >= name || !areBelow(value, names.points)) {
            throw new IllegalArgumentException("not earlier, or no such value");
        }
        return names.enter(name, element, value);
    }

    public int valueOf(int name, int other, boolean isElement) throws IndexOutOfBoundsException {
        if (!isBelow(name, names.count) || !isBelow(other, names.count)) {
            throw new IndexOutOfBoundsException("no such name");
        }
        return isElement ? names.memberValue(name, other) : names.equalValue(name, other);
    }

    public int quotient(int name, int point)
            throws IndexOutOfBoundsException, IllegalArgumentException, IllegalStateException {
        if (!isBelow(name, names.count)) {
            throw new IndexOutOfBoundsException("no such name");
        }
        if (!isBelow(point, names.points)) {
            throw new IllegalArgumentException("no such point");
        }
        if (things.count + names.planQuotient(name, point, things) > MOST_THINGS) {
            throw new IllegalStateException("no room for the things");
        }
        return names.buildQuotient(name, things);
    }

    public int nameSupport(int name) throws IndexOutOfBoundsException {
        if (!isBelow(name, names.count)) {
            throw new IndexOutOfBoundsException("no such name");
        }
        return names.pointsUnlikeFirst(name);
    }

    // ---- games

    public int tree(int depth, int won) throws IllegalArgumentException {
        if (depth < 1 || depth > MOST_DEPTH || depth < MOST_DEPTH && !areBelow(won, 1 << depth)) {
            throw new IllegalArgumentException("no such depth, or no such rows");
        }
        return game.plant(depth, won);
    }

    public boolean firstWins(int moves, int row) throws IllegalArgumentException {
        if (moves < 0 || moves > game.depth || !isBelow(row, 1 << moves)) {
            throw new IllegalArgumentException("no such moves");
        }
        return game.isWonByFirst(moves, row);
    }

    public int move(int moves, int row) throws IllegalArgumentException, NoSuchElementException {
        if (moves < 0 || moves >= game.depth || !isBelow(row, 1 << moves)) {
            throw new IllegalArgumentException("no such moves, or all were made");
        }
        int best = game.leastWinningMove(moves, row);
        if (best < 0) {
            throw new NoSuchElementException("no strategy");
        }
        return best;
    }

    // ---- ordinals

    public int ordinal(int first, int second, int third, int fourth)
            throws IllegalArgumentException, IllegalStateException {
        if (!isBelow(first, MOST_TOLD + 1) || !isBelow(second, MOST_TOLD + 1)
                || !isBelow(third, MOST_TOLD + 1) || !isBelow(fourth, MOST_TOLD + 1)) {
            throw new IllegalArgumentException("0 to 999");
        }
        if (ordinals.isFull()) {
            throw new IllegalStateException("no room for an ordinal");
        }
        return ordinals.addOf(first, second, third, fourth);
    }

    public int coefficient(int ordinal, int power) throws IndexOutOfBoundsException, IllegalArgumentException {
        if (!isBelow(ordinal, ordinals.count)) {
            throw new IndexOutOfBoundsException("no such ordinal");
        }
        if (!isBelow(power, POWERS)) {
            throw new IllegalArgumentException("0 to 7");
        }
        return ordinals.rows[ordinal][power];
    }

    public int compare(int one, int other) throws IndexOutOfBoundsException {
        if (!isBelow(one, ordinals.count) || !isBelow(other, ordinals.count)) {
            throw new IndexOutOfBoundsException("no such ordinal");
        }
        return ordinals.order(one, other);
    }

    public int reckon(int one, int other, boolean isProduct)
            throws IndexOutOfBoundsException, UnsupportedOperationException, IllegalStateException {
        if (!isBelow(one, ordinals.count) || !isBelow(other, ordinals.count)) {
            throw new IndexOutOfBoundsException("no such ordinal");
        }
        boolean fits = isProduct ? ordinals.planProduct(one, other) : ordinals.planSum(one, other);
        if (!fits) {
            throw new UnsupportedOperationException("too great");
        }
        if (ordinals.isFull()) {
            throw new IllegalStateException("no room for an ordinal");
        }
        return ordinals.addPlanned();
    }

    public int row(int ordinal, int index)
            throws IndexOutOfBoundsException, IllegalArgumentException, NoSuchElementException, IllegalStateException {
        if (!isBelow(ordinal, ordinals.count)) {
            throw new IndexOutOfBoundsException("no such ordinal");
        }
        if (!isBelow(index, MOST_TOLD + 1)) {
            throw new IllegalArgumentException("0 to 999");
        }
        if (!ordinals.planRow(ordinal, index)) {
            throw new NoSuchElementException("it has no row");
        }
        if (ordinals.isFull()) {
            throw new IllegalStateException("no room for an ordinal");
        }
        return ordinals.addPlanned();
    }

    // ---- forms and proofs

    public boolean implies(int form, int other) throws IllegalArgumentException, UnsupportedOperationException {
        if (!isBelow(form, FORMS) || !isBelow(other, FORMS) || form == other) {
            throw new IllegalArgumentException("no such forms");
        }
        if (!forms.allow(form, other)) {
            throw new UnsupportedOperationException("a form would hold and fail");
        }
        return forms.join(form, other);
    }

    public int model(int holds, int fails)
            throws IllegalArgumentException, UnsupportedOperationException, IllegalStateException {
        if (!areBelow(holds, FORMS) || !areBelow(fails, FORMS)) {
            throw new IllegalArgumentException("no such forms");
        }
        if ((forms.followOf(holds) & fails) != 0) {
            throw new UnsupportedOperationException("a form would hold and fail");
        }
        if (forms.models >= MOST_MODELS) {
            throw new IllegalStateException("no room for a model");
        }
        return forms.addModel(holds, fails);
    }

    public char known(int form, int other) throws IllegalArgumentException {
        if (!isBelow(form, FORMS) || !isBelow(other, FORMS)) {
            throw new IllegalArgumentException("no such form");
        }
        return forms.answer(form, other);
    }

    public int rule(int premises, int conclusion, boolean usesChoice)
            throws IllegalArgumentException, IllegalStateException {
        if (!areBelow(premises, STATEMENTS) || !isBelow(conclusion, STATEMENTS)) {
            throw new IllegalArgumentException("no such statement");
        }
        if (proofs.count >= MOST_RULES) {
            throw new IllegalStateException("no room for a rule");
        }
        return proofs.add(premises, conclusion, usesChoice);
    }

    public boolean isProved(int statement, boolean withChoice) throws IllegalArgumentException {
        if (!isBelow(statement, STATEMENTS)) {
            throw new IllegalArgumentException("no such statement");
        }
        return has(proofs.proved(withChoice, -1), statement);
    }

    public int uses(int statement) throws IllegalArgumentException, NoSuchElementException {
        if (!isBelow(statement, STATEMENTS)) {
            throw new IllegalArgumentException("no such statement");
        }
        int fewest = proofs.fewestUses(statement);
        if (fewest < 0) {
            throw new NoSuchElementException("no proof");
        }
        return fewest;
    }

    public boolean isSpare(int rule) throws IndexOutOfBoundsException {
        if (!isBelow(rule, proofs.count)) {
            throw new IndexOutOfBoundsException("no such rule");
        }
        return proofs.proved(true, rule) == proofs.proved(true, -1);
    }

    // ---- figures

    public int things() {
        return things.count;
    }

    public float knownShare() {
        return (float) forms.answered() / (float) FORM_PAIRS;
    }

    public double meanSize() throws NoSuchElementException {
        int sets = things.count - Integer.bitCount(things.atoms);
        if (sets <= 0) {
            throw new NoSuchElementException("no sets");
        }
        return (double) things.allUnlikeMembers() / (double) sets;
    }

    public boolean isSound() {
        return names.valuesAgree() && forms.areFreeOfConflict() && things.alikeHaveAlike();
    }

    // ---- helps

    private static boolean has(int bits, int place) {
        return place >= 0 && place < 32 && (bits >>> place & 1) != 0;
    }

    private static boolean isBelow(int number, int bound) {
        return number >= 0 && number < bound;
    }

    private static boolean areBelow(int bits, int bound) {
        return bound >= 32 || bound >= 0 && bits >>> bound == 0;
    }

    /** Parts nodes into those that nothing tells apart, each told by the lowest one that is like it. */
    private static final class Classes {
        private final long[] elements;
        private final long[] marks;
        private final int[] lowest;
        private long ends;
        private int nodes;

        private Classes(int room) {
            elements = new long[room];
            marks = new long[room];
            lowest = new int[room];
        }

        private void begin(int count) {
            nodes = Math.min(count, lowest.length);
            ends = 0L;
        }

        /** An end is an atom: what it is like is told, not found. */
        private void plantEnd(int node, int like) {
            if (isBelow(node, nodes)) {
                ends |= 1L << node;
                lowest[node] = like;
            }
        }

        private void plantSet(int node, long told) {
            if (isBelow(node, nodes)) {
                elements[node] = told;
                marks[node] = 0L;
                lowest[node] = node;
            }
        }

        private boolean isEnd(int node) {
            return (ends >>> node & 1L) != 0L;
        }

        /** All sets begin as alike, for loops may be equal as far as nothing tells them apart. */
        private void part() {
            groupSets();
            boolean moves = true;
            for (int round = 0; moves && round <= nodes; round++) {
                markSets();
                moves = groupSets();
            }
        }

        private void markSets() {
            for (int node = 0; node < nodes; node++) {
                if (!isEnd(node)) {
                    marks[node] = markOf(elements[node]);
                }
            }
        }

        private long markOf(long told) {
            long mark = 0L;
            for (int node = 0; node < nodes; node++) {
                if ((told >>> node & 1L) != 0L) {
                    mark |= 1L << lowest[node];
                }
            }
            return mark;
        }

        private boolean groupSets() {
            boolean moved = false;
            for (int node = 0; node < nodes; node++) {
                if (!isEnd(node)) {
                    int like = lowestMarked(node);
                    moved |= like != lowest[node];
                    lowest[node] = like;
                }
            }
            return moved;
        }

        private int lowestMarked(int node) {
            for (int like = 0; like < node; like++) {
                if ((ends >>> like & 1L) == 0L && lowest[like] == like && marks[like] == marks[node]) {
                    return like;
                }
            }
            return node;
        }
    }

    /** Atoms and sets by their numbers, and what follows from their elements. */
    private static final class Things {
        private static final long NO_CODE = -1L;
        private static final long GREAT_CODE = 1L << 62;
        private static final long MOST_ELEMENT_CODE = 61L;

        private final int[] told = new int[MOST_THINGS];
        private final int[] alike = new int[MOST_THINGS];
        private final int[] members = new int[MOST_THINGS];
        private final int[] holders = new int[MOST_THINGS];
        private final int[] ranks = new int[MOST_THINGS];
        private final long[] codes = new long[MOST_THINGS];
        private final Classes classes = new Classes(MOST_THINGS);
        private final Classes swaps = new Classes(2 * MOST_THINGS);
        private int count;
        private int atoms;
        private boolean settled;

        private boolean isFull() {
            return count >= MOST_THINGS;
        }

        private boolean isAtom(int thing) {
            return has(atoms, thing);
        }

        private int addAtom() {
            atoms |= 1 << count;
            return addSet(0);
        }

        private int addSet(int elements) {
            int number = count;
            if (number < MOST_THINGS) {
                told[number] = elements;
                count = number + 1;
                settled = false;
            }
            return number;
        }

        private boolean addElement(int set, int element) {
            boolean isNew = !has(told[set], element);
            told[set] |= 1 << element;
            settled = settled && !isNew;
            return isNew;
        }

        /** What follows from the elements is found once for each change. */
        private void settle() {
            if (settled) {
                return;
            }
            settled = true;
            classes.begin(count);
            for (int thing = 0; thing < count; thing++) {
                if (isAtom(thing)) {
                    classes.plantEnd(thing, thing);
                } else {
                    classes.plantSet(thing, told[thing]);
                }
            }
            classes.part();
            gatherAlike();
            gatherMembers();
            gatherRanks();
        }

        private void gatherAlike() {
            for (int thing = 0; thing < count; thing++) {
                alike[thing] = 0;
                for (int other = 0; other < count; other++) {
                    if (classes.lowest[other] == classes.lowest[thing]) {
                        alike[thing] |= 1 << other;
                    }
                }
            }
        }

        private void gatherMembers() {
            Arrays.fill(holders, 0);
            for (int thing = 0; thing < count; thing++) {
                members[thing] = 0;
                for (int element = 0; element < count; element++) {
                    if ((told[thing] & alike[element]) != 0) {
                        members[thing] |= 1 << element;
                        holders[element] |= 1 << thing;
                    }
                }
            }
        }

        /** A thing joins the founded ones a round behind the last one of its elements: the round is its rank. */
        private void gatherRanks() {
            Arrays.fill(ranks, -1);
            int founded = 0;
            int joining = -1;
            for (int round = 0; joining != 0 && round < count; round++) {
                joining = 0;
                for (int thing = 0; thing < count; thing++) {
                    if (!has(founded, thing) && (told[thing] & ~founded) == 0) {
                        joining |= 1 << thing;
                        ranks[thing] = round;
                    }
                }
                founded |= joining;
            }
        }

        private boolean areAlike(int one, int other) {
            settle();
            return has(alike[one], other);
        }

        private boolean isMember(int element, int set) {
            settle();
            return has(members[set], element);
        }

        private int unlikeMembers(int thing) {
            settle();
            return unlike(members[thing]);
        }

        private int allUnlikeMembers() {
            int all = 0;
            for (int thing = 0; thing < count; thing++) {
                all += unlikeMembers(thing);
            }
            return all;
        }

        /** How many unlike things are in a mask that has, with a thing, all that are like it. */
        private int unlike(int mask) {
            int unlike = 0;
            int left = mask;
            for (int thing = 0; thing < count; thing++) {
                if (has(left, thing)) {
                    unlike++;
                    left &= ~alike[thing];
                }
            }
            return unlike;
        }

        private int rankOf(int thing) {
            settle();
            return ranks[thing];
        }

        /** By rising ranks, so that the codes of elements are there before they are asked for. */
        private long codeOf(int thing) {
            settle();
            for (int rank = 0; rank <= ranks[thing]; rank++) {
                for (int each = 0; each < count; each++) {
                    if (ranks[each] == rank) {
                        codes[each] = codeByElements(each);
                    }
                }
            }
            return ranks[thing] < 0 ? NO_CODE : codes[thing];
        }

        private long codeByElements(int set) {
            long code = isAtom(set) ? NO_CODE : 0L;
            for (int element = 0; element < count && code != NO_CODE; element++) {
                if (has(told[set], element)) {
                    code = codeWith(code, codes[element]);
                }
            }
            return code;
        }

        private static long codeWith(long code, long element) {
            if (element == NO_CODE) {
                return NO_CODE;
            }
            if (code == GREAT_CODE || element > MOST_ELEMENT_CODE) {
                return GREAT_CODE;
            }
            return code | 1L << (int) element;
        }

        private int reachedFrom(int thing) {
            int reached = told[thing];
            int before = 0;
            for (int round = 0; before != reached && round < count; round++) {
                before = reached;
                reached |= toldOf(reached);
            }
            return reached;
        }

        private int toldOf(int mask) {
            int all = 0;
            for (int thing = 0; thing < count; thing++) {
                if (has(mask, thing)) {
                    all |= told[thing];
                }
            }
            return all;
        }

        private int toldOfTold(int thing) {
            return toldOf(told[thing]);
        }

        private boolean holdsItsDepth(int thing) {
            settle();
            boolean holdsAll = true;
            for (int element = 0; element < count; element++) {
                if (has(told[thing], element)) {
                    holdsAll &= (members[element] & ~members[thing]) == 0;
                }
            }
            return holdsAll;
        }

        /** The lowest set with just these elements, told by the lowest ones like them; -1 for none; settled before. */
        private int lowestWith(long mark) {
            for (int thing = 0; thing < count; thing++) {
                if (!isAtom(thing) && classes.markOf(told[thing]) == mark) {
                    return thing;
                }
            }
            return -1;
        }

        /** Each thing has a swapped copy behind all things; a copy that is like no thing stays behind them. */
        private int lowestAfterSwap(int thing, int one, int other) {
            swaps.begin(2 * count);
            for (int each = 0; each < count; each++) {
                if (isAtom(each)) {
                    swaps.plantEnd(each, each);
                    swaps.plantEnd(count + each, each == one ? other : each == other ? one : each);
                } else {
                    swaps.plantSet(each, told[each]);
                    swaps.plantSet(count + each, (long) told[each] << count);
                }
            }
            swaps.part();
            return swaps.lowest[count + thing];
        }

        private boolean isKept(int thing, int one, int other) {
            int lowest = lowestAfterSwap(thing, one, other);
            return lowest == swaps.lowest[thing];
        }

        /** Of the sets of places that meet each moving swap, the smallest, and the first one of these. */
        private int leastSupport(int thing) {
            int places = Integer.bitCount(atoms);
            int pairs = movingPairs(thing, places);
            int best = (1 << places) - 1;
            for (int trial = 0; trial < 1 << places; trial++) {
                if (Integer.bitCount(trial) < Integer.bitCount(best) && meetsAll(pairs, trial, places)) {
                    best = trial;
                }
            }
            return best;
        }

        /** The pairs of atom places whose swap moves the thing, each as a bit. */
        private int movingPairs(int thing, int places) {
            int pairs = 0;
            for (int one = 0; one < places; one++) {
                for (int other = one + 1; other < places; other++) {
                    if (lowestAfterSwap(thing, atomAt(one), atomAt(other)) != swaps.lowest[thing]) {
                        pairs |= 1 << one * MOST_ATOMS + other;
                    }
                }
            }
            return pairs;
        }

        private static boolean meetsAll(int pairs, int trial, int places) {
            boolean meets = true;
            for (int one = 0; one < places; one++) {
                for (int other = one + 1; other < places; other++) {
                    if (has(pairs, one * MOST_ATOMS + other)) {
                        meets &= has(trial, one) || has(trial, other);
                    }
                }
            }
            return meets;
        }

        private int atomAt(int place) {
            int left = place;
            for (int thing = 0; thing < count; thing++) {
                if (isAtom(thing)) {
                    if (left == 0) {
                        return thing;
                    }
                    left--;
                }
            }
            return 0;
        }

        private boolean alikeHaveAlike() {
            settle();
            boolean agree = true;
            for (int one = 0; one < count; one++) {
                for (int other = 0; other < count; other++) {
                    if (has(alike[one], other)) {
                        agree &= members[one] == members[other] && isAtom(one) == isAtom(other);
                    }
                }
            }
            return agree;
        }
    }

    /** The typed text, what it says as a row of parts in the order of their signs, and told values. */
    private static final class Formula {
        private static final int AWAITS_PART = 0;
        private static final int AWAITS_RELATION = 1;
        private static final int AWAITS_SECOND = 2;
        private static final int AWAITS_ONLY = 3;
        private static final int AWAITS_BOUND = 4;
        private static final int AWAITS_FIRST_OF_TWO = 5;
        private static final int AWAITS_AROUND = 6;

        private final char[] signs = new char[MOST_SIGNS];
        private final char[] kinds = new char[MOST_SIGNS];
        private final int[] one = new int[MOST_SIGNS];
        private final int[] two = new int[MOST_SIGNS];
        private final int[] right = new int[MOST_SIGNS];
        private final int[] ends = new int[MOST_SIGNS];
        private final int[] free = new int[MOST_SIGNS];
        private final int[] types = new int[VARIABLES];
        private final int[] values = new int[VARIABLES];
        private int length;
        private int parts;
        private int open;
        private int standing;
        private int faultPlace;
        private boolean isRead;
        private boolean isTyped;

        private Formula() {
            Arrays.fill(values, -1);
        }

        private int append(char sign) {
            if (length < MOST_SIGNS) {
                signs[length] = sign;
                length++;
                isRead = false;
            }
            return length;
        }

        private int clear() {
            int before = length;
            length = 0;
            isRead = false;
            return before;
        }

        private int tell(int variable, int thing) {
            int before = values[variable];
            values[variable] = thing;
            return before;
        }

        private boolean areTold(int variables, int world) {
            boolean areAll = true;
            for (int variable = 0; variable < VARIABLES; variable++) {
                if (has(variables, variable)) {
                    areAll &= has(world, values[variable]);
                }
            }
            return areAll;
        }

        private int firstFault() {
            if (!isRead) {
                isRead = true;
                faultPlace = readSigns();
                if (faultPlace < 0) {
                    joinParts();
                    isTyped = findTypes();
                }
            }
            return faultPlace;
        }

        private boolean isWhole() {
            return firstFault() < 0;
        }

        private int readSigns() {
            parts = 0;
            open = 1;
            standing = 0;
            int awaited = AWAITS_PART;
            for (int place = 0; place < length; place++) {
                char sign = signs[place];
                if (awaited == AWAITS_PART) {
                    awaited = open > 0 ? beginPart(sign) : -1;
                } else if (awaited == AWAITS_RELATION) {
                    awaited = relate(sign);
                } else {
                    awaited = takeVariable(awaited, VARIABLE_SIGNS.indexOf(sign));
                }
                if (awaited < 0) {
                    return place;
                }
            }
            return open == 0 && awaited == AWAITS_PART ? -1 : length;
        }

        /** Returns what the next sign must be, -1 if this one cannot stand here; open parts are still to come. */
        private int beginPart(char sign) {
            int variable = VARIABLE_SIGNS.indexOf(sign);
            if (parts >= MOST_SIGNS || sign == 'e' || sign == '=') {
                return -1;
            }
            kinds[parts] = sign;
            one[parts] = variable;
            two[parts] = -1;
            parts++;
            if (variable >= 0) {
                standing |= 1 << variable;
                return AWAITS_RELATION;
            }
            switch (sign) {
                case 'a':
                    return AWAITS_ONLY;
                case 'A':
                case 'E':
                    return AWAITS_BOUND;
                case 'B':
                case 'S':
                    return AWAITS_FIRST_OF_TWO;
                case '&':
                case '|':
                    open++;
                    return AWAITS_PART;
                default:
                    return AWAITS_PART;
            }
        }

        private int relate(char sign) {
            if (parts < 1 || sign != 'e' && sign != '=') {
                return -1;
            }
            kinds[parts - 1] = sign;
            return AWAITS_SECOND;
        }

        private int takeVariable(int awaited, int variable) {
            if (parts < 1 || variable < 0) {
                return -1;
            }
            standing |= 1 << variable;
            if (awaited == AWAITS_SECOND || awaited == AWAITS_AROUND) {
                two[parts - 1] = variable;
            } else {
                one[parts - 1] = variable;
            }
            if (awaited == AWAITS_SECOND || awaited == AWAITS_ONLY) {
                open--;
            }
            return awaited == AWAITS_FIRST_OF_TWO ? AWAITS_AROUND : AWAITS_PART;
        }

        private boolean isLeaf(int part) {
            return kinds[part] == 'e' || kinds[part] == '=' || kinds[part] == 'a';
        }

        private boolean isPair(int part) {
            return kinds[part] == '&' || kinds[part] == '|';
        }

        private boolean isQuantifier(int part) {
            return kinds[part] == 'A' || kinds[part] == 'E' || isRestricted(part);
        }

        private boolean isRestricted(int part) {
            return kinds[part] == 'B' || kinds[part] == 'S';
        }

        /** From the last part to the first one, so that what a part joins has been joined. */
        private void joinParts() {
            for (int part = parts - 1; part >= 0; part--) {
                right[part] = 0;
                ends[part] = part + 1;
                free[part] = 0;
                if (!isLeaf(part) && part + 1 < parts) {
                    ends[part] = ends[part + 1];
                    free[part] = free[part + 1];
                }
                if (isPair(part) && ends[part] < parts) {
                    right[part] = ends[part];
                    free[part] |= free[right[part]];
                    ends[part] = ends[right[part]];
                }
                nameFree(part);
            }
        }

        private void nameFree(int part) {
            int own = one[part] >= 0 ? 1 << one[part] : 0;
            int second = two[part] >= 0 ? 1 << two[part] : 0;
            if (isLeaf(part)) {
                free[part] = own | second;
            } else if (isQuantifier(part)) {
                free[part] = free[part] & ~own | second;
            }
        }

        private boolean hasNoFullRange() {
            boolean hasNone = true;
            for (int part = 0; part < parts; part++) {
                hasNone &= kinds[part] != 'A' && kinds[part] != 'E';
            }
            return hasNone;
        }

        private boolean hasTypes() {
            return isTyped;
        }

        private boolean findTypes() {
            int typed = 0;
            for (int variable = 0; variable < VARIABLES; variable++) {
                if (has(standing, variable) && !has(typed, variable)) {
                    types[variable] = 0;
                    typed |= spreadTypes(1 << variable);
                }
            }
            boolean agree = true;
            for (int part = 0; part < parts; part++) {
                if (one[part] >= 0 && two[part] >= 0) {
                    agree &= types[two[part]] == types[one[part]] + rise(part);
                }
            }
            return agree;
        }

        private int rise(int part) {
            return kinds[part] == '=' ? 0 : 1;
        }

        /** Types all that hang together with the begun variable, and lifts or lowers them till the least one is 0. */
        private int spreadTypes(int begun) {
            int hanging = begun;
            for (int round = 0; round < VARIABLES; round++) {
                for (int part = 0; part < parts; part++) {
                    hanging |= spreadOver(part, hanging);
                }
            }
            int least = VARIABLES;
            for (int variable = 0; variable < VARIABLES; variable++) {
                if (has(hanging, variable)) {
                    least = Math.min(least, types[variable]);
                }
            }
            for (int variable = 0; variable < VARIABLES; variable++) {
                if (has(hanging, variable)) {
                    types[variable] -= least;
                }
            }
            return hanging;
        }

        private int spreadOver(int part, int hanging) {
            int first = one[part];
            int second = two[part];
            if (first < 0 || second < 0 || has(hanging, first) == has(hanging, second)) {
                return 0;
            }
            if (has(hanging, first)) {
                types[second] = types[first] + rise(part);
                return 1 << second;
            }
            types[first] = types[second] - rise(part);
            return 1 << first;
        }
    }

    /**
     * Weighs the formula part by part, the inner ones first, each in a table over the values of its variables:
     * so a formula costs no more than its tables, however deep its quantifiers stand in one another.
     * One variable, the lead, has no place in the tables: each entry has a bit for each thing as its value.
     */
    private static final class Scale {
        /** 40 signs need six tables of 28^4 entries at most, and small ones: no run takes a room beyond the last. */
        private static final int[] ROOMS = {1024, 32768, 131072, 700000, 3750000};

        private final Things things;
        private final Formula formula;
        private final int[] list = new int[MOST_THINGS];
        private final int[] scope = new int[MOST_SIGNS];
        private final int[] vary = new int[MOST_SIGNS];
        private final int[] starts = new int[MOST_SIGNS];
        private final int[] digits = new int[VARIABLES];
        private int[] room = new int[ROOMS[0]];
        private int world;
        private int count;
        private int lead;

        private Scale(Things things, Formula formula) {
            this.things = things;
            this.formula = formula;
        }

        private boolean isTrueIn(int world) {
            prepare(world, 0);
            weigh(0);
            return entryAt(starts[0]) != 0;
        }

        private int countIn(int world, int variable) {
            prepare(world, 1 << variable);
            weigh(0);
            int found = 0;
            Arrays.fill(digits, 0);
            for (int at = 0; at < count; at++) {
                digits[variable] = at;
                if (has(entryOf(0), list[at])) {
                    found++;
                }
            }
            return found;
        }

        /** The greater world's table stays at the beginning, the smaller one's comes behind it. */
        private boolean agree(int smaller, int greater) {
            prepare(greater, formula.free[0]);
            weigh(0);
            int base = entries(0);
            int greaterCount = count;
            enter(smaller);
            weigh(base);
            Arrays.fill(digits, 0);
            int entries = entries(0);
            for (int at = 0; at < entries; at++) {
                int other = entryAt(placeIn(greater, greaterCount));
                if (((entryAt(base + at) ^ other) & smaller) != 0) {
                    return false;
                }
                step(vary[0]);
            }
            return true;
        }

        /** The place in the greater world's table of the values that the digits mean in this world. */
        private int placeIn(int greater, int greaterCount) {
            int place = 0;
            int stride = 1;
            for (int variable = 0; variable < VARIABLES; variable++) {
                if (isDigit(vary[0], variable)) {
                    int thing = list[digits[variable]];
                    place += stride * Integer.bitCount(greater & (1 << thing) - 1);
                    stride *= greaterCount;
                }
            }
            return place;
        }

        private void prepare(int world, int top) {
            things.settle();
            enter(world);
            spreadScope(top);
            pickLead();
        }

        private void enter(int world) {
            this.world = world;
            count = 0;
            for (int thing = 0; thing < MOST_THINGS; thing++) {
                if (has(world, thing)) {
                    list[count] = thing;
                    count++;
                }
            }
        }

        /** A variable varies in a part if it is free there and not told from outside of the formula. */
        private void spreadScope(int top) {
            scope[0] = top;
            for (int part = 0; part < formula.parts; part++) {
                int below = scope[part];
                vary[part] = formula.free[part] & below;
                if (formula.isQuantifier(part)) {
                    below |= 1 << formula.one[part];
                }
                if (!formula.isLeaf(part) && part + 1 < formula.parts) {
                    scope[part + 1] = below;
                }
                if (formula.right[part] > part) {
                    scope[formula.right[part]] = below;
                }
            }
        }

        private void pickLead() {
            int best = 0;
            long least = effort(0);
            for (int variable = 1; variable < VARIABLES; variable++) {
                long effort = effort(variable);
                if (effort < least) {
                    least = effort;
                    best = variable;
                }
            }
            lead = best;
        }

        private long effort(int trial) {
            lead = trial;
            long all = 0L;
            for (int part = 0; part < formula.parts; part++) {
                boolean turns = formula.isQuantifier(part) && formula.one[part] != trial;
                all += (long) entries(part) * (turns ? count : 1);
            }
            return all;
        }

        private boolean isDigit(int varying, int variable) {
            return variable != lead && (varying >>> variable & 1) != 0;
        }

        private int entries(int part) {
            int entries = 1;
            for (int variable = 0; variable < VARIABLES; variable++) {
                if (isDigit(vary[part], variable)) {
                    entries *= count;
                }
            }
            return entries;
        }

        /** Tables stand as on a stack: each is written behind the last one, then put in place of what it joins. */
        private void weigh(int base) {
            reserve(lay(base));
            int end = base;
            for (int part = formula.parts - 1; part >= 0; part--) {
                int entries = entries(part);
                Arrays.fill(digits, 0);
                for (int at = end; at < end + entries && at < room.length; at++) {
                    room[at] = bitsOf(part);
                    step(vary[part]);
                }
                if (starts[part] <= end && end + entries <= room.length) {
                    System.arraycopy(room, end, room, starts[part], entries);
                }
                end = starts[part] + entries;
            }
        }

        private int lay(int base) {
            int end = base;
            int most = base;
            for (int part = formula.parts - 1; part >= 0; part--) {
                int entries = entries(part);
                most = Math.max(most, end + entries);
                if (formula.isLeaf(part) || part + 1 >= formula.parts) {
                    starts[part] = end;
                } else {
                    starts[part] = starts[formula.right[part] > part ? formula.right[part] : part + 1];
                }
                end = starts[part] + entries;
            }
            return most;
        }

        private void reserve(int need) {
            if (room.length >= need) {
                return;
            }
            int length = need;
            for (int at = ROOMS.length - 1; at >= 0; at--) {
                if (ROOMS[at] >= need) {
                    length = ROOMS[at];
                }
            }
            int[] tables = new int[length];
            System.arraycopy(room, 0, tables, 0, room.length);
            room = tables;
        }

        private void step(int varying) {
            for (int variable = 0; variable < VARIABLES; variable++) {
                if (isDigit(varying, variable)) {
                    digits[variable]++;
                    if (digits[variable] < count) {
                        return;
                    }
                    digits[variable] = 0;
                }
            }
        }

        private int entryAt(int place) {
            return place >= 0 && place < room.length ? room[place] : 0;
        }

        private int entryOf(int part) {
            int place = starts[part];
            int stride = 1;
            for (int variable = 0; variable < VARIABLES; variable++) {
                if (isDigit(vary[part], variable)) {
                    place += digits[variable] * stride;
                    stride *= count;
                }
            }
            return entryAt(place);
        }

        private int bitsOf(int part) {
            int next = Math.min(part + 1, MOST_SIGNS - 1);
            switch (formula.kinds[part]) {
                case 'e':
                    return bitsOfElement(part);
                case '=':
                    return bitsOfEqual(part);
                case 'a':
                    return bitsOfAtom(part);
                case '!':
                    return world & ~entryOf(next);
                case '&':
                    return entryOf(next) & entryOf(formula.right[part]);
                case '|':
                    return entryOf(next) | entryOf(formula.right[part]);
                default:
                    return formula.one[part] == lead ? overLead(part, next) : overOther(part, next);
            }
        }

        private boolean isLead(int part, int variable) {
            return variable == lead && has(scope[part], variable);
        }

        private int thingOf(int part, int variable) {
            int thing = has(scope[part], variable) ? list[digits[variable]] : formula.values[variable];
            return Math.max(thing, 0);
        }

        private int allIf(boolean isTrue) {
            return isTrue ? world : 0;
        }

        private int bitsOfElement(int part) {
            int first = formula.one[part];
            int second = formula.two[part];
            if (isLead(part, first)) {
                return isLead(part, second) ? ownElements() : world & things.members[thingOf(part, second)];
            }
            int held = things.holders[thingOf(part, first)];
            return isLead(part, second) ? world & held : allIf(has(held, thingOf(part, second)));
        }

        private int ownElements() {
            int own = 0;
            for (int at = 0; at < count; at++) {
                own |= things.members[list[at]] & 1 << list[at];
            }
            return own;
        }

        private int bitsOfEqual(int part) {
            int first = formula.one[part];
            int second = formula.two[part];
            if (isLead(part, first)) {
                return isLead(part, second) ? world : world & things.alike[thingOf(part, second)];
            }
            int alike = things.alike[thingOf(part, first)];
            return isLead(part, second) ? world & alike : allIf(has(alike, thingOf(part, second)));
        }

        private int bitsOfAtom(int part) {
            int variable = formula.one[part];
            return isLead(part, variable) ? world & things.atoms : allIf(things.isAtom(thingOf(part, variable)));
        }

        /** E and S are weighed as A and B of the opposite, turned round again. */
        private int turnOf(int part) {
            return formula.kinds[part] == 'A' || formula.kinds[part] == 'B' ? 0 : world;
        }

        private int overLead(int part, int next) {
            int turn = turnOf(part);
            int misses = world & ~(entryOf(next) ^ turn);
            int around = formula.two[part];
            if (around < 0) {
                return allIf(misses == 0) ^ turn;
            }
            if (!isLead(part, around)) {
                return allIf((things.members[thingOf(part, around)] & misses) == 0) ^ turn;
            }
            int bits = 0;
            for (int at = 0; at < count; at++) {
                if ((things.members[list[at]] & misses) == 0) {
                    bits |= 1 << list[at];
                }
            }
            return bits ^ turn;
        }

        /** The variable around is read before the bound one turns, for both may be the same letter. */
        private int overOther(int part, int next) {
            int turn = turnOf(part);
            int variable = formula.one[part];
            int around = formula.two[part];
            boolean isAroundLead = around >= 0 && isLead(part, around);
            int range = around < 0 || isAroundLead ? world : world & things.members[thingOf(part, around)];
            int turns = around >= 0 || has(vary[next], variable) ? count : 1;
            int kept = digits[variable];
            int bits = world;
            for (int at = 0; at < turns && bits != 0; at++) {
                if (has(range, list[at])) {
                    digits[variable] = at;
                    int misses = world & ~(entryOf(next) ^ turn);
                    bits &= ~(isAroundLead ? misses & things.holders[list[at]] : misses);
                }
            }
            digits[variable] = kept;
            return bits ^ turn;
        }
    }

    /** The axioms, weighed over the things of a world with the elements that are in it. */
    private static final class Axioms {
        private final Things things;
        private final int[] inner = new int[MOST_THINGS];
        private int world;
        private int sets;

        private Axioms(Things things) {
            this.things = things;
        }

        private boolean isTrueIn(int world, char axiom) {
            things.settle();
            enter(world);
            switch (axiom) {
                case 'x':
                    return isExtensional();
                case 'e':
                    return hasSetOf(0);
                case 'p':
                    return hasPairs();
                case 'u':
                    return hasUnions();
                case 'w':
                    return hasPowers();
                case 'f':
                    return hasLeastOnes();
                case 'c':
                    return hasChoices();
                default:
                    return (world & things.atoms) == 0;
            }
        }

        private void enter(int world) {
            this.world = world;
            sets = world & ~things.atoms;
            for (int thing = 0; thing < MOST_THINGS; thing++) {
                inner[thing] = has(world, thing) ? things.members[thing] & world : 0;
            }
        }

        private boolean hasSetOf(int elements) {
            for (int set = 0; set < MOST_THINGS; set++) {
                if (has(sets, set) && inner[set] == elements) {
                    return true;
                }
            }
            return false;
        }

        private boolean isExtensional() {
            for (int one = 0; one < MOST_THINGS; one++) {
                for (int other = 0; other < one; other++) {
                    if (has(sets, one) && has(sets, other) && inner[one] == inner[other]
                            && !has(things.alike[one], other)) {
                        return false;
                    }
                }
            }
            return true;
        }

        private boolean hasPairs() {
            for (int one = 0; one < MOST_THINGS; one++) {
                for (int other = 0; other <= one; other++) {
                    if (has(world, one) && has(world, other)
                            && !hasSetOf((things.alike[one] | things.alike[other]) & world)) {
                        return false;
                    }
                }
            }
            return true;
        }

        private boolean hasUnions() {
            for (int set = 0; set < MOST_THINGS; set++) {
                if (has(sets, set) && !hasSetOf(innerOf(inner[set]))) {
                    return false;
                }
            }
            return true;
        }

        private int innerOf(int mask) {
            int all = 0;
            for (int thing = 0; thing < MOST_THINGS; thing++) {
                if (has(mask, thing)) {
                    all |= inner[thing];
                }
            }
            return all;
        }

        private boolean hasPowers() {
            for (int set = 0; set < MOST_THINGS; set++) {
                if (has(sets, set) && !hasSetOf(setsWithin(inner[set]))) {
                    return false;
                }
            }
            return true;
        }

        private int setsWithin(int elements) {
            int all = 0;
            for (int set = 0; set < MOST_THINGS; set++) {
                if (has(sets, set) && (inner[set] & ~elements) == 0) {
                    all |= 1 << set;
                }
            }
            return all;
        }

        private boolean hasLeastOnes() {
            for (int set = 0; set < MOST_THINGS; set++) {
                if (has(sets, set) && inner[set] != 0 && !hasLeastOne(inner[set])) {
                    return false;
                }
            }
            return true;
        }

        /** An atom has no elements, so it is one without a common element, too. */
        private boolean hasLeastOne(int elements) {
            for (int element = 0; element < MOST_THINGS; element++) {
                if (has(elements, element) && (inner[element] & elements) == 0) {
                    return true;
                }
            }
            return false;
        }

        private boolean hasChoices() {
            for (int set = 0; set < MOST_THINGS; set++) {
                if (has(sets, set) && canBeChosenFrom(inner[set]) && !hasChoiceFor(inner[set])) {
                    return false;
                }
            }
            return true;
        }

        private boolean canBeChosenFrom(int family) {
            for (int one = 0; one < MOST_THINGS; one++) {
                if (has(family, one) && (inner[one] == 0 || meetsUnlike(one, family))) {
                    return false;
                }
            }
            return true;
        }

        private boolean meetsUnlike(int one, int family) {
            for (int other = 0; other < MOST_THINGS; other++) {
                if (has(family & ~things.alike[one], other) && (inner[one] & inner[other]) != 0) {
                    return true;
                }
            }
            return false;
        }

        private boolean hasChoiceFor(int family) {
            for (int choice = 0; choice < MOST_THINGS; choice++) {
                if (has(sets, choice) && takesOneOfEach(inner[choice], family)) {
                    return true;
                }
            }
            return false;
        }

        private boolean takesOneOfEach(int taken, int family) {
            for (int each = 0; each < MOST_THINGS; each++) {
                if (has(family, each) && things.unlike(taken & inner[each]) != 1) {
                    return false;
                }
            }
            return true;
        }
    }

    /** Names with values in the algebra of points, and the sets that they become. */
    private static final class Names {
        private final int[][] given = new int[MOST_NAMES][MOST_NAMES];
        private final int[][] equal = new int[MOST_NAMES][MOST_NAMES];
        private final Classes classes = new Classes(MOST_NAMES * MOST_POINTS);
        private final long[] marks = new long[MOST_NAMES];
        private final int[] places = new int[MOST_NAMES];
        private int count;
        private int points = 2;
        private int planned;
        private boolean settled;

        private int beginAnew(int points) {
            int before = count;
            count = 0;
            this.points = points;
            settled = false;
            return before;
        }

        private int add() {
            int number = count;
            if (number < MOST_NAMES) {
                Arrays.fill(given[number], 0);
                count = number + 1;
                settled = false;
            }
            return number;
        }

        private int enter(int name, int element, int value) {
            int before = given[name][element];
            given[name][element] = value;
            settled = false;
            return before;
        }

        private int equalValue(int name, int other) {
            settle();
            return equal[name][other];
        }

        private int memberValue(int name, int other) {
            settle();
            return valueWithin(name, other);
        }

        private int valueWithin(int name, int other) {
            int value = 0;
            for (int element = 0; element < other; element++) {
                value |= given[other][element] & equal[name][element];
            }
            return value;
        }

        private void settle() {
            if (settled) {
                return;
            }
            settled = true;
            for (int name = 0; name < count; name++) {
                for (int other = name; other < count; other++) {
                    int value = weighEqual(name, other);
                    equal[name][other] = value;
                    equal[other][name] = value;
                }
            }
            partPoints();
        }

        /** Asks only for values of an element of the first one and one of the other, which stand already. */
        private int weighEqual(int name, int other) {
            int value = (1 << points) - 1;
            for (int element = 0; element < name; element++) {
                value &= ~given[name][element] | valueWithin(element, other);
            }
            for (int element = 0; element < other; element++) {
                value &= ~given[other][element] | valueWithin(element, name);
            }
            return value;
        }

        private int node(int name, int point) {
            return name * MOST_POINTS + point;
        }

        /** The quotients themselves, compared as sets, with no look at the values. */
        private void partPoints() {
            classes.begin(count * MOST_POINTS);
            for (int name = 0; name < count; name++) {
                for (int point = 0; point < MOST_POINTS; point++) {
                    classes.plantSet(node(name, point), elementsAt(name, point));
                }
            }
            classes.part();
        }

        private long elementsAt(int name, int point) {
            long elements = 0L;
            for (int element = 0; element < name; element++) {
                if (has(given[name][element], point)) {
                    elements |= 1L << node(element, point);
                }
            }
            return elements;
        }

        private int pointsUnlikeFirst(int name) {
            settle();
            int unlike = 0;
            for (int point = 1; point < points; point++) {
                if (classes.lowest[node(name, point)] != classes.lowest[node(name, 0)]) {
                    unlike |= 1 << point;
                }
            }
            return unlike;
        }

        /** Finds a thing, or the number of a new one, for each name in it; returns how many things lack. */
        private int planQuotient(int name, int point, Things things) {
            things.settle();
            planned = namesIn(name, point);
            int lacking = 0;
            for (int each = 0; each <= name; each++) {
                if (has(planned, each)) {
                    marks[each] = markAt(each, point);
                    places[each] = placeFor(each, things);
                    if (places[each] < 0) {
                        places[each] = things.count + lacking;
                        lacking++;
                    }
                }
            }
            return lacking;
        }

        /** The name itself, and those that are in it at the point, however deep: all of them are earlier. */
        private int namesIn(int name, int point) {
            int within = 1 << name;
            for (int each = name; each > 0; each--) {
                for (int element = 0; element < each; element++) {
                    if (has(within, each) && has(given[each][element], point)) {
                        within |= 1 << element;
                    }
                }
            }
            return within;
        }

        private long markAt(int name, int point) {
            long mark = 0L;
            for (int element = 0; element < name; element++) {
                if (has(given[name][element], point)) {
                    mark |= 1L << places[element];
                }
            }
            return mark;
        }

        private int placeFor(int name, Things things) {
            for (int earlier = 0; earlier < name; earlier++) {
                if (has(planned, earlier) && marks[earlier] == marks[name]) {
                    return places[earlier];
                }
            }
            return things.lowestWith(marks[name]);
        }

        private int buildQuotient(int name, Things things) {
            for (int each = 0; each <= name; each++) {
                if (has(planned, each) && places[each] == things.count) {
                    things.addSet((int) marks[each]);
                }
            }
            return places[name];
        }

        private boolean valuesAgree() {
            settle();
            for (int name = 0; name < count; name++) {
                for (int other = 0; other < count; other++) {
                    for (int point = 0; point < points; point++) {
                        if (!valueAgrees(name, other, point)) {
                            return false;
                        }
                    }
                }
            }
            return true;
        }

        private boolean valueAgrees(int name, int other, int point) {
            int lowest = classes.lowest[node(name, point)];
            boolean isEqual = lowest == classes.lowest[node(other, point)];
            boolean isWithin = false;
            for (int element = 0; element < other; element++) {
                isWithin |= has(given[other][element], point) && lowest == classes.lowest[node(element, point)];
            }
            return isEqual == has(equal[name][other], point) && isWithin == has(valueWithin(name, other), point);
        }
    }

    /** A tree of moves, weighed from its rows back. */
    private static final class Game {
        private int depth = 1;
        private int won;

        private int plant(int depth, int won) {
            int before = this.depth;
            this.depth = depth;
            this.won = won;
            return before;
        }

        private boolean isFirstToMove(int moves) {
            return (moves & 1) == 0;
        }

        private boolean isWonByFirst(int moves, int row) {
            int wins = won;
            for (int made = depth - 1; made >= moves; made--) {
                wins = winsBefore(made, wins);
            }
            return has(wins, row);
        }

        private int winsBefore(int made, int wins) {
            int before = 0;
            for (int row = 0; row < 1 << made; row++) {
                boolean zero = has(wins, 2 * row);
                boolean one = has(wins, 2 * row + 1);
                if (isFirstToMove(made) ? zero || one : zero && one) {
                    before |= 1 << row;
                }
            }
            return before;
        }

        private int leastWinningMove(int moves, int row) {
            for (int next = 0; next < 2; next++) {
                if (isWonByFirst(moves + 1, 2 * row + next) == isFirstToMove(moves)) {
                    return next;
                }
            }
            return -1;
        }
    }

    /** Ordinals as rows of coefficients, by their powers; a new one is planned first, then added. */
    private static final class Ordinals {
        private final int[][] rows = new int[MOST_ORDINALS][POWERS];
        private final long[] plan = new long[POWERS];
        private int count;

        private boolean isFull() {
            return count >= MOST_ORDINALS;
        }

        private int addOf(int first, int second, int third, int fourth) {
            Arrays.fill(plan, 0L);
            plan[0] = first;
            plan[1] = second;
            plan[2] = third;
            plan[3] = fourth;
            return addPlanned();
        }

        private int addPlanned() {
            int number = count;
            if (number < MOST_ORDINALS) {
                for (int power = 0; power < POWERS; power++) {
                    rows[number][power] = (int) plan[power];
                }
                count = number + 1;
            }
            return number;
        }

        private int order(int one, int other) {
            for (int power = POWERS - 1; power >= 0; power--) {
                int order = Integer.compare(rows[one][power], rows[other][power]);
                if (order != 0) {
                    return order < 0 ? -1 : 1;
                }
            }
            return 0;
        }

        private static int greatestPower(int[] row) {
            for (int power = POWERS - 1; power >= 0; power--) {
                if (row[power] != 0) {
                    return power;
                }
            }
            return -1;
        }

        private boolean planSum(int one, int other) {
            int[] first = rows[one];
            int[] second = rows[other];
            int meeting = greatestPower(second);
            for (int power = 0; power < POWERS; power++) {
                plan[power] = power >= meeting ? first[power] : 0;
                plan[power] += second[power];
            }
            return planFits();
        }

        private boolean planProduct(int one, int other) {
            int[] first = rows[one];
            int[] second = rows[other];
            int top = greatestPower(first);
            int raise = greatestPower(second);
            Arrays.fill(plan, 0L);
            if (top < 0 || raise < 0) {
                return true;
            }
            if (top + raise >= POWERS) {
                return false;
            }
            for (int power = 0; power < POWERS; power++) {
                if (power > top) {
                    plan[power] = second[power - top];
                } else if (second[0] > 0) {
                    plan[power] = power == top ? (long) first[power] * second[0] : first[power];
                }
            }
            return planFits();
        }

        private boolean planFits() {
            boolean fits = true;
            for (int power = 0; power < POWERS; power++) {
                fits &= plan[power] <= MOST_COEFFICIENT;
            }
            return fits;
        }

        private boolean planRow(int ordinal, int index) {
            int[] row = rows[ordinal];
            int least = 0;
            while (least < POWERS && row[least] == 0) {
                least++;
            }
            if (least == 0 || least >= POWERS) {
                return false;
            }
            for (int power = 0; power < POWERS; power++) {
                plan[power] = row[power];
            }
            plan[least]--;
            plan[least - 1] = index;
            return true;
        }
    }

    /** Forms of choice: what follows from each, and models that part them. */
    private static final class Forms {
        private final int[] follow = new int[FORMS];
        private final int[] modelHolds = new int[MOST_MODELS];
        private final int[] modelFails = new int[MOST_MODELS];
        private int models;

        private Forms() {
            for (int form = 0; form < FORMS; form++) {
                follow[form] = 1 << form;
            }
        }

        private int followOf(int mask) {
            int all = 0;
            for (int form = 0; form < FORMS; form++) {
                if (has(mask, form)) {
                    all |= follow[form];
                }
            }
            return all;
        }

        /** What would follow: all of the other one's, wherever the first one follows. */
        private boolean allow(int form, int other) {
            boolean isAllowed = true;
            for (int model = 0; model < models; model++) {
                int holding = followOf(modelHolds[model]);
                if (has(holding, form)) {
                    isAllowed &= ((holding | follow[other]) & modelFails[model]) == 0;
                }
            }
            return isAllowed;
        }

        private boolean join(int form, int other) {
            boolean isNew = !has(follow[form], other);
            int added = follow[other];
            for (int each = 0; each < FORMS; each++) {
                if (has(follow[each], form)) {
                    follow[each] |= added;
                }
            }
            return isNew;
        }

        private int addModel(int holding, int failing) {
            int number = models;
            if (number < MOST_MODELS) {
                modelHolds[number] = holding;
                modelFails[number] = failing;
                models = number + 1;
            }
            return number;
        }

        private char answer(int form, int other) {
            if (has(follow[form], other)) {
                return 'y';
            }
            for (int model = 0; model < models; model++) {
                if (has(followOf(modelHolds[model]), form) && (follow[other] & modelFails[model]) != 0) {
                    return 'n';
                }
            }
            return '-';
        }

        private int answered() {
            int answered = 0;
            for (int form = 0; form < FORMS; form++) {
                for (int other = 0; other < FORMS; other++) {
                    if (form != other && answer(form, other) != '-') {
                        answered++;
                    }
                }
            }
            return answered;
        }

        private boolean areFreeOfConflict() {
            boolean isFree = true;
            for (int model = 0; model < models; model++) {
                isFree &= (followOf(modelHolds[model]) & modelFails[model]) == 0;
            }
            return isFree;
        }
    }

    /** Rules of proof over the statements. */
    private static final class Proofs {
        private final int[] premises = new int[MOST_RULES];
        private final int[] conclusions = new int[MOST_RULES];
        private final int[] choices = new int[MOST_RULES];
        private final int[] fewest = new int[STATEMENTS];
        private int count;

        private int add(int needed, int conclusion, boolean usesChoice) {
            int number = count;
            if (number < MOST_RULES) {
                premises[number] = needed;
                conclusions[number] = conclusion;
                choices[number] = usesChoice ? 1 : 0;
                count = number + 1;
            }
            return number;
        }

        /** Each round but the last one proves a statement more, so there is one round for each at most. */
        private int proved(boolean withChoice, int skipped) {
            int proved = 0;
            int before = -1;
            for (int round = 0; before != proved && round < STATEMENTS; round++) {
                before = proved;
                for (int each = 0; each < count; each++) {
                    boolean isAllowed = each != skipped && (withChoice || choices[each] == 0);
                    if (isAllowed && (premises[each] & ~proved) == 0) {
                        proved |= 1 << conclusions[each];
                    }
                }
            }
            return proved;
        }

        /** The cheapest proof is no deeper than there are statements, so that many rounds find it; -1 for none. */
        private int fewestUses(int statement) {
            Arrays.fill(fewest, -1);
            boolean moves = true;
            for (int round = 0; moves && round < STATEMENTS; round++) {
                moves = false;
                for (int each = 0; each < count; each++) {
                    int trial = usesBy(each);
                    int conclusion = conclusions[each];
                    if (trial >= 0 && (fewest[conclusion] < 0 || trial < fewest[conclusion])) {
                        fewest[conclusion] = trial;
                        moves = true;
                    }
                }
            }
            return fewest[statement];
        }

        private int usesBy(int each) {
            int all = choices[each];
            for (int statement = 0; statement < STATEMENTS; statement++) {
                if (has(premises[each], statement)) {
                    if (fewest[statement] < 0) {
                        return -1;
                    }
                    all += fewest[statement];
                }
            }
            return all;
        }
    }
}
