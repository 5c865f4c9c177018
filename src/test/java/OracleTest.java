import java.math.BigInteger;
import java.util.ArrayList;
import java.util.HashMap;
import java.util.List;
import java.util.Map;
import java.util.NoSuchElementException;
import java.util.TreeSet;

/** Runs the class beside a plain reading of the document, on many runs of calls from a fixed row of numbers. */
public final class OracleTest {
    /** The plain reading: slow, written from the document's words alone, with recursion and without cleverness. */
    static final class Oracle {
        static final class Tired extends RuntimeException { }

        final List<TreeSet<Integer>> told = new ArrayList<>();
        final List<Boolean> isAtom = new ArrayList<>();
        final StringBuilder text = new StringBuilder();
        final Map<Character, Integer> values = new HashMap<>();
        final List<TreeSet<Integer>> worlds = new ArrayList<>();
        int points = 2;
        final List<Map<Integer, Integer>> names = new ArrayList<>();
        int depth = 1;
        int won = 0;
        final List<long[]> ordinals = new ArrayList<>();
        final boolean[][] arrows = new boolean[12][12];
        final List<int[]> models = new ArrayList<>();
        final List<Object[]> rules = new ArrayList<>();
        boolean[][] same = null;
        long budget = 0;

        // ---- things

        void isThing(int t) { if (t < 0 || t >= told.size()) throw new IndexOutOfBoundsException(); }

        TreeSet<Integer> bits(int mask) {
            TreeSet<Integer> set = new TreeSet<>();
            for (int i = 0; i < 32; i++) if ((mask >> i & 1) == 1) set.add(i);
            return set;
        }

        int mask(Iterable<Integer> set) { int m = 0; for (int i : set) m |= 1 << i; return m; }

        int add(TreeSet<Integer> elements, boolean atom) {
            told.add(elements); isAtom.add(atom); same = null; return told.size() - 1;
        }

        int atom() {
            int atoms = 0; for (boolean b : isAtom) if (b) atoms++;
            if (told.size() == 28 || atoms == 4) throw new IllegalStateException();
            return add(new TreeSet<>(), true);
        }

        int set(int elements) {
            for (int i : bits(elements)) isThing(i);
            if (told.size() == 28) throw new IllegalStateException();
            return add(bits(elements), false);
        }

        boolean put(int set, int element) {
            isThing(set); isThing(element);
            if (isAtom.get(set)) throw new UnsupportedOperationException();
            same = null;
            return told.get(set).add(element);
        }

        /** The greatest relation that the words allow, after a swap of two things (-1 for none) on the first side. */
        boolean[][] relation(int one, int other) {
            int n = told.size();
            boolean[][] r = new boolean[n][n];
            for (int i = 0; i < n; i++) for (int j = 0; j < n; j++) {
                if (isAtom.get(i) || isAtom.get(j)) r[i][j] = isAtom.get(i) && isAtom.get(j) && (i == one ? other : i == other ? one : i) == j;
                else r[i][j] = true;
            }
            boolean moved = true;
            while (moved) {
                moved = false;
                for (int i = 0; i < n; i++) for (int j = 0; j < n; j++) {
                    if (r[i][j] && !isAtom.get(i)) {
                        boolean fits = true;
                        for (int a : told.get(i)) { boolean some = false; for (int b : told.get(j)) some |= r[a][b]; fits &= some; }
                        for (int b : told.get(j)) { boolean some = false; for (int a : told.get(i)) some |= r[a][b]; fits &= some; }
                        if (!fits) { r[i][j] = false; moved = true; }
                    }
                }
            }
            return r;
        }

        boolean eq(int a, int b) { if (same == null) same = relation(-1, -1); return same[a][b]; }

        boolean in(int a, int b) { for (int e : told.get(b)) if (eq(a, e)) return true; return false; }

        boolean areEqual(int a, int b) { isThing(a); isThing(b); return eq(a, b); }

        boolean isElement(int a, int b) { isThing(a); isThing(b); return in(a, b); }

        int unlike(Iterable<Integer> set) {
            List<Integer> seen = new ArrayList<>();
            for (int e : set) { boolean isNew = true; for (int s : seen) isNew &= !eq(s, e); if (isNew) seen.add(e); }
            return seen.size();
        }

        int size(int t) { isThing(t); return unlike(told.get(t)); }

        /** A row goes on for ever if a thing comes twice on a path. */
        boolean founded(int t, TreeSet<Integer> path) {
            if (path.contains(t)) return false;
            TreeSet<Integer> longer = new TreeSet<>(path);
            longer.add(t);
            for (int e : told.get(t)) if (!founded(e, longer)) return false;
            return true;
        }

        final Map<Integer, Boolean> foundedMemo = new HashMap<>();

        boolean isFounded(int t) {
            isThing(t);
            // a thing is not founded if it reaches one that is inside itself
            if (inside0(t).contains(t)) return false;
            for (int e : inside0(t)) if (inside0(e).contains(e)) return false;
            return true;
        }

        TreeSet<Integer> inside0(int t) {
            TreeSet<Integer> all = new TreeSet<>();
            List<Integer> todo = new ArrayList<>(told.get(t));
            while (!todo.isEmpty()) { int e = todo.remove(todo.size() - 1); if (all.add(e)) todo.addAll(told.get(e)); }
            return all;
        }

        int rank0(int t, Map<Integer, Integer> memo) {
            Integer known = memo.get(t);
            if (known != null) return known;
            int r = 0;
            for (int e : told.get(t)) r = Math.max(r, rank0(e, memo) + 1);
            memo.put(t, r);
            return r;
        }

        int rank(int t) {
            isThing(t);
            if (!isFounded(t)) throw new NoSuchElementException();
            return rank0(t, new HashMap<>());
        }

        /** null for a code too great to be written. */
        BigInteger code0(int t, Map<Integer, BigInteger> memo) {
            if (memo.containsKey(t)) return memo.get(t);
            BigInteger code = BigInteger.ZERO;
            for (int e : told.get(t)) {
                BigInteger c = code0(e, memo);
                if (c == null || c.bitLength() > 16) { code = null; break; }
                code = code.setBit(c.intValue());
            }
            memo.put(t, code);
            return code;
        }

        long code(int t) {
            isThing(t);
            if (!isFounded(t) || isAtom.get(t)) throw new NoSuchElementException();
            for (int e : inside0(t)) if (isAtom.get(e)) throw new NoSuchElementException();
            Map<Integer, BigInteger> memo = new HashMap<>();
            BigInteger c = code0(t, memo);
            for (int e : told.get(t)) { BigInteger k = memo.get(e); if (k == null || k.compareTo(BigInteger.valueOf(61)) > 0) throw new IllegalStateException(); }
            return c.longValueExact();
        }

        int inside(int t) { isThing(t); return mask(inside0(t)); }

        boolean isTransitive(int t) {
            isThing(t);
            for (int y = 0; y < told.size(); y++) for (int z = 0; z < told.size(); z++) if (in(y, t) && in(z, y) && !in(z, t)) return false;
            return true;
        }

        int sum(int t) {
            isThing(t);
            if (isAtom.get(t)) throw new UnsupportedOperationException();
            if (told.size() == 28) throw new IllegalStateException();
            TreeSet<Integer> all = new TreeSet<>();
            for (int e : told.get(t)) all.addAll(told.get(e));
            return add(all, false);
        }

        // ---- formulas

        static final class Part { char kind; int first = -1; int second = -1; Part left; Part right; }

        int at;
        int fault;

        int type(char sign) {
            if ("pqrste=a!&|AEBS".indexOf(sign) < 0) throw new IllegalArgumentException();
            if (text.length() == 40) throw new IllegalStateException();
            text.append(sign);
            return text.length();
        }

        int wipe() { int n = text.length(); text.setLength(0); return n; }

        static final class Bad extends RuntimeException { final int place; Bad(int place) { this.place = place; } }

        char next(String allowed) {
            if (at == text.length() || allowed.indexOf(text.charAt(at)) < 0) throw new Bad(at);
            return text.charAt(at++);
        }

        int variable() { return "pqrst".indexOf(next("pqrst")); }

        Part part() {
            Part p = new Part();
            char c = next("pqrsta!&|AEBS");
            if ("pqrst".indexOf(c) >= 0) { p.first = "pqrst".indexOf(c); p.kind = next("e="); p.second = variable(); return p; }
            p.kind = c;
            if (c == 'a') p.first = variable();
            if (c == 'A' || c == 'E') { p.first = variable(); p.left = part(); }
            if (c == 'B' || c == 'S') { p.first = variable(); p.second = variable(); p.left = part(); }
            if (c == '!') p.left = part();
            if (c == '&' || c == '|') { p.left = part(); p.right = part(); }
            return p;
        }

        Part whole() {
            at = 0;
            try {
                Part p = part();
                fault = at == text.length() ? -1 : at;
                return fault < 0 ? p : null;
            } catch (Bad b) { fault = b.place; return null; }
        }

        int fault() { whole(); return fault; }

        Part read() { Part p = whole(); if (p == null) throw new IllegalArgumentException(); return p; }

        /** Walks with the variables that are named around; tells those that stand free. */
        void freeIn(Part p, TreeSet<Integer> bound, TreeSet<Integer> found) {
            if (p == null) return;
            if (p.kind == 'e' || p.kind == '=' || p.kind == 'a') {
                if (!bound.contains(p.first)) found.add(p.first);
                if (p.second >= 0 && !bound.contains(p.second)) found.add(p.second);
                return;
            }
            TreeSet<Integer> under = new TreeSet<>(bound);
            if ("BS".indexOf(p.kind) >= 0 && !bound.contains(p.second)) found.add(p.second);
            if (p.first >= 0) under.add(p.first);
            freeIn(p.left, under, found);
            freeIn(p.right, under, found);
        }

        TreeSet<Integer> freeOf(Part p) { TreeSet<Integer> f = new TreeSet<>(); freeIn(p, new TreeSet<>(), f); return f; }

        int free() { return mask(freeOf(read())); }

        boolean isBounded() { read(); return text.indexOf("A") < 0 && text.indexOf("E") < 0; }

        void pairs(Part p, List<int[]> pairs) {
            if (p == null) return;
            if (p.second >= 0) pairs.add(new int[] {p.first, p.second, p.kind == '=' ? 0 : 1});
            pairs(p.left, pairs); pairs(p.right, pairs);
        }

        /** Tries all types from 0 to 4; the least ones that fit, -1 if none do. */
        int[] leastTypes() {
            List<int[]> pairs = new ArrayList<>();
            pairs(read(), pairs);
            int[] least = {-1, -1, -1, -1, -1};
            for (int all = 0; all < 3125; all++) {
                int[] t = {all % 5, all / 5 % 5, all / 25 % 5, all / 125 % 5, all / 625};
                boolean fits = true;
                for (int[] p : pairs) fits &= t[p[1]] == t[p[0]] + p[2];
                if (fits) for (int v = 0; v < 5; v++) if (least[v] < 0 || t[v] < least[v]) least[v] = t[v];
            }
            return least;
        }

        boolean isStratified() { return leastTypes()[0] >= 0; }

        int typeOf(char c) {
            read();
            if ("pqrst".indexOf(c) < 0) throw new IllegalArgumentException();
            int[] t = leastTypes();
            if (t[0] < 0 || text.indexOf("" + c) < 0) throw new NoSuchElementException();
            return t["pqrst".indexOf(c)];
        }

        int value(char c, int t) {
            if ("pqrst".indexOf(c) < 0) throw new IllegalArgumentException();
            isThing(t);
            Integer before = values.put(c, t);
            return before == null ? -1 : before;
        }

        // ---- worlds

        int world(int things) {
            for (int i : bits(things)) isThing(i);
            if (things == 0) throw new IllegalArgumentException();
            if (worlds.size() == 8) throw new IllegalStateException();
            worlds.add(bits(things));
            return worlds.size() - 1;
        }

        TreeSet<Integer> worldAt(int w) { if (w < 0 || w >= worlds.size()) throw new IndexOutOfBoundsException(); return worlds.get(w); }

        boolean weigh(Part p, TreeSet<Integer> w, int[] env) {
            if (++budget > 300000) throw new Tired();
            switch (p.kind) {
                case 'e': return in(env[p.first], env[p.second]);
                case '=': return eq(env[p.first], env[p.second]);
                case 'a': return isAtom.get(env[p.first]);
                case '!': return !weigh(p.left, w, env);
                case '&': return weigh(p.left, w, env) && weigh(p.right, w, env);
                case '|': return weigh(p.left, w, env) || weigh(p.right, w, env);
                default:
                    boolean all = p.kind == 'A' || p.kind == 'B';
                    for (int x : w) {
                        if (p.second >= 0 && !in(x, env[p.second])) continue;
                        int[] inner = env.clone();
                        inner[p.first] = x;
                        if (weigh(p.left, w, inner) != all) return !all;
                    }
                    return all;
            }
        }

        int[] env(Part p, TreeSet<Integer> w, int without) {
            int[] env = new int[5];
            for (int v : freeOf(p)) {
                if (v == without) continue;
                Integer t = values.get("pqrst".charAt(v));
                if (t == null || !w.contains(t)) throw new UnsupportedOperationException();
                env[v] = t;
            }
            return env;
        }

        boolean holds(int world) {
            TreeSet<Integer> w = worldAt(world);
            Part p = read();
            int[] env = env(p, w, -1);
            budget = 0;
            return weigh(p, w, env);
        }

        int satisfy(int world, char c) {
            TreeSet<Integer> w = worldAt(world);
            Part p = read();
            int v = "pqrst".indexOf(c);
            if (v < 0) throw new IllegalArgumentException();
            int[] env = env(p, w, v);
            int n = 0;
            budget = 0;
            for (int x : w) { env[v] = x; if (weigh(p, w, env)) n++; }
            return n;
        }

        boolean isAbsolute(int world, int other) {
            TreeSet<Integer> a = worldAt(world);
            TreeSet<Integer> b = worldAt(other);
            Part p = read();
            if (!b.containsAll(a)) throw new UnsupportedOperationException();
            budget = 0;
            return absolute(p, a, b, new ArrayList<>(freeOf(p)), 0, new int[5]);
        }

        boolean absolute(Part p, TreeSet<Integer> a, TreeSet<Integer> b, List<Integer> free, int k, int[] env) {
            if (k == free.size()) return weigh(p, a, env.clone()) == weigh(p, b, env.clone());
            for (int x : a) { env[free.get(k)] = x; if (!absolute(p, a, b, free, k + 1, env)) return false; }
            return true;
        }

        boolean hasJust(TreeSet<Integer> w, int s, java.util.function.IntPredicate wanted) {
            if (isAtom.get(s)) return false;
            for (int x : w) if (in(x, s) != wanted.test(x)) return false;
            return true;
        }

        boolean some(TreeSet<Integer> w, java.util.function.IntPredicate wanted) {
            for (int s : w) if (hasJust(w, s, wanted)) return true;
            return false;
        }

        List<Integer> inner(TreeSet<Integer> w, int s) { List<Integer> l = new ArrayList<>(); for (int x : w) if (in(x, s)) l.add(x); return l; }

        boolean axiom(int world, char axiom) {
            TreeSet<Integer> w = worldAt(world);
            List<Integer> sets = new ArrayList<>();
            for (int x : w) if (!isAtom.get(x)) sets.add(x);
            switch (axiom) {
                case 'x':
                    for (int a : sets) for (int b : sets) if (inner(w, a).equals(inner(w, b)) && !eq(a, b)) return false;
                    return true;
                case 'e': return some(w, x -> false);
                case 'p':
                    for (int a : w) for (int b : w) if (!some(w, x -> eq(x, a) || eq(x, b))) return false;
                    return true;
                case 'u':
                    for (int a : sets) if (!some(w, x -> { for (int y : inner(w, a)) if (in(x, y)) return true; return false; })) return false;
                    return true;
                case 'w':
                    for (int a : sets) if (!some(w, x -> !isAtom.get(x) && inner(w, a).containsAll(inner(w, x)))) return false;
                    return true;
                case 'f':
                    for (int a : sets) {
                        List<Integer> els = inner(w, a);
                        if (els.isEmpty()) continue;
                        boolean found = false;
                        for (int y : els) {
                            if (isAtom.get(y)) found = true;
                            else { List<Integer> common = inner(w, y); common.retainAll(els); if (common.isEmpty()) found = true; }
                        }
                        if (!found) return false;
                    }
                    return true;
                case 'c':
                    for (int a : sets) {
                        List<Integer> family = inner(w, a);
                        boolean fits = true;
                        for (int y : family) {
                            if (isAtom.get(y) || inner(w, y).isEmpty()) fits = false;
                            for (int z : family) if (!eq(y, z)) for (int x : w) if (in(x, y) && in(x, z)) fits = false;
                        }
                        if (!fits) continue;
                        boolean chosen = false;
                        for (int c : sets) {
                            boolean one = true;
                            for (int y : family) { List<Integer> common = inner(w, y); common.retainAll(inner(w, c)); one &= unlike(common) == 1; }
                            chosen |= one;
                        }
                        if (!chosen) return false;
                    }
                    return true;
                case 'n': return sets.size() == w.size();
                default: throw new IllegalArgumentException();
            }
        }

        // ---- atoms

        void areAtoms(int t, int one, int other) {
            isThing(t); isThing(one); isThing(other);
            if (!isAtom.get(one) || !isAtom.get(other)) throw new IllegalArgumentException();
        }

        boolean isFixed(int t, int one, int other) { areAtoms(t, one, other); return relation(one, other)[t][t]; }

        int swapped(int t, int one, int other) {
            areAtoms(t, one, other);
            boolean[][] r = relation(one, other);
            for (int y = 0; y < told.size(); y++) if (r[t][y]) return y;
            throw new NoSuchElementException();
        }

        int support(int t) {
            isThing(t);
            List<Integer> atoms = new ArrayList<>();
            for (int i = 0; i < told.size(); i++) if (isAtom.get(i)) atoms.add(i);
            int n = atoms.size();
            for (int size = 0; size <= n; size++) {
                for (int s = 0; s < 1 << n; s++) {
                    if (Integer.bitCount(s) != size) continue;
                    boolean supports = true;
                    for (int i = 0; i < n; i++) for (int j = 0; j < i; j++)
                        if ((s >> i & 1) == 0 && (s >> j & 1) == 0 && supports) supports = relation(atoms.get(i), atoms.get(j))[t][t];
                    if (supports) return s;
                }
            }
            throw new AssertionError();
        }

        // ---- names

        int algebra(int n) {
            if (n < 1 || n > 4) throw new IllegalArgumentException();
            points = n;
            int before = names.size();
            names.clear();
            return before;
        }

        void isName(int n) { if (n < 0 || n >= names.size()) throw new IndexOutOfBoundsException(); }

        int name() { if (names.size() == 12) throw new IllegalStateException(); names.add(new HashMap<>()); return names.size() - 1; }

        int give(int n, int e, int v) {
            isName(n); isName(e);
            if (e >= n || v < 0 || v >= 1 << points) throw new IllegalArgumentException();
            Integer before = names.get(n).put(e, v);
            return before == null ? 0 : before;
        }

        final Map<Long, Integer> memo = new HashMap<>();

        int nameIn(int x, int y) {
            int v = 0;
            for (Map.Entry<Integer, Integer> z : names.get(y).entrySet()) v |= z.getValue() & nameEq(x, z.getKey());
            return v;
        }

        int nameEq(int x, int y) {
            Integer known = memo.get(x * 100L + y);
            if (known != null) return known;
            int v = 0;
            for (int p = 0; p < points; p++) {
                boolean fits = true;
                for (Map.Entry<Integer, Integer> z : names.get(x).entrySet()) fits &= (z.getValue() >> p & 1) == 0 || (nameIn(z.getKey(), y) >> p & 1) == 1;
                for (Map.Entry<Integer, Integer> z : names.get(y).entrySet()) fits &= (z.getValue() >> p & 1) == 0 || (nameIn(z.getKey(), x) >> p & 1) == 1;
                if (fits) v |= 1 << p;
            }
            memo.put(x * 100L + y, v);
            return v;
        }

        int valueOf(int x, int y, boolean isElement) { isName(x); isName(y); memo.clear(); return isElement ? nameIn(x, y) : nameEq(x, y); }

        /** A set as a text: the texts of its elements, sorted, each once. */
        String canon(int n, int p) {
            TreeSet<String> parts = new TreeSet<>();
            for (Map.Entry<Integer, Integer> z : names.get(n).entrySet()) if ((z.getValue() >> p & 1) == 1) parts.add(canon(z.getKey(), p));
            return "{" + String.join("", parts) + "}";
        }

        String canonThing(int t, Map<Integer, String> known) {
            if (known.containsKey(t)) return known.get(t);
            TreeSet<String> parts = new TreeSet<>();
            for (int e : told.get(t)) parts.add(canonThing(e, known));
            known.put(t, "{" + String.join("", parts) + "}");
            return known.get(t);
        }

        boolean isPure(int t) {
            if (!isFounded(t) || isAtom.get(t)) return false;
            for (int e : inside0(t)) if (isAtom.get(e)) return false;
            return true;
        }

        void within(int n, int p, TreeSet<Integer> all) {
            all.add(n);
            for (Map.Entry<Integer, Integer> z : names.get(n).entrySet()) if ((z.getValue() >> p & 1) == 1) within(z.getKey(), p, all);
        }

        int quotient(int n, int p) {
            isName(n);
            if (p < 0 || p >= points) throw new IllegalArgumentException();
            Map<String, Integer> texts = new HashMap<>();
            Map<Integer, String> known = new HashMap<>();
            for (int t = 0; t < told.size(); t++) if (isPure(t)) { String c = canonThing(t, known); if (c.length() > 100000) throw new Tired(); texts.putIfAbsent(c, t); }
            TreeSet<Integer> all = new TreeSet<>();
            within(n, p, all);
            List<TreeSet<Integer>> fresh = new ArrayList<>();
            for (int x : all) {
                String c = canon(x, p);
                if (!texts.containsKey(c)) {
                    TreeSet<Integer> elements = new TreeSet<>();
                    for (Map.Entry<Integer, Integer> z : names.get(x).entrySet()) if ((z.getValue() >> p & 1) == 1) elements.add(texts.get(canon(z.getKey(), p)));
                    texts.put(c, told.size() + fresh.size());
                    fresh.add(elements);
                }
            }
            if (told.size() + fresh.size() > 28) throw new IllegalStateException();
            for (TreeSet<Integer> f : fresh) add(f, false);
            return texts.get(canon(n, p));
        }

        int nameSupport(int n) {
            isName(n);
            int s = 0;
            for (int p = 0; p < points; p++) if (!canon(n, p).equals(canon(n, 0))) s |= 1 << p;
            return s;
        }

        // ---- games

        int tree(int d, int w) {
            if (d < 1 || d > 5) throw new IllegalArgumentException();
            for (int i : bits(w)) if (i >= 1 << d) throw new IllegalArgumentException();
            int before = depth;
            depth = d;
            won = w;
            return before;
        }

        boolean wins(int m, int r) {
            if (m == depth) return (won >>> r & 1) == 1;
            boolean zero = wins(m + 1, r * 2);
            boolean one = wins(m + 1, r * 2 + 1);
            return m % 2 == 0 ? zero || one : zero && one;
        }

        boolean firstWins(int m, int r) {
            if (m < 0 || m > depth || r < 0 || r >= Math.pow(2, m)) throw new IllegalArgumentException();
            return wins(m, r);
        }

        int move(int m, int r) {
            if (m < 0 || m >= depth || r < 0 || r >= Math.pow(2, m)) throw new IllegalArgumentException();
            boolean isFirst = m % 2 == 0;
            for (int c = 0; c < 2; c++) if (wins(m + 1, 2 * r + c) == isFirst) return c;
            throw new NoSuchElementException();
        }

        // ---- ordinals

        void isOrdinal(int o) { if (o < 0 || o >= ordinals.size()) throw new IndexOutOfBoundsException(); }

        int addOrdinal(long[] o) { ordinals.add(o); return ordinals.size() - 1; }

        int ordinal(int a, int b, int c, int d) {
            for (int k : new int[] {a, b, c, d}) if (k < 0 || k > 999) throw new IllegalArgumentException();
            if (ordinals.size() == 20) throw new IllegalStateException();
            return addOrdinal(new long[] {a, b, c, d, 0, 0, 0, 0});
        }

        int coefficient(int o, int p) {
            isOrdinal(o);
            if (p < 0 || p > 7) throw new IllegalArgumentException();
            return (int) ordinals.get(o)[p];
        }

        int compare(int a, int b) {
            isOrdinal(a); isOrdinal(b);
            for (int p = 7; p >= 0; p--) {
                if (ordinals.get(a)[p] > ordinals.get(b)[p]) return 1;
                if (ordinals.get(a)[p] < ordinals.get(b)[p]) return -1;
            }
            return 0;
        }

        static int degree(long[] o) { for (int p = o.length - 1; p >= 0; p--) if (o[p] > 0) return p; return -1; }

        static long[] plus(long[] a, long[] b) {
            int d = degree(b);
            long[] c = a.clone();
            for (int p = 0; p < d; p++) c[p] = 0;
            for (int p = 0; p < c.length; p++) c[p] += b[p];
            return c;
        }

        /** The product by a sum as the sum of the products, term by term, from the greatest power down. */
        static long[] times(long[] a, long[] b) {
            long[] sum = new long[16];
            if (degree(a) < 0) return sum;
            for (int q = 7; q >= 0; q--) {
                if (b[q] == 0) continue;
                long[] term = new long[16];
                if (q > 0) term[degree(a) + q] = b[q];
                else { System.arraycopy(a, 0, term, 0, 8); term[degree(a)] *= b[0]; }
                sum = plus(sum, term);
            }
            return sum;
        }

        int reckon(int a, int b, boolean isProduct) {
            isOrdinal(a); isOrdinal(b);
            long[] x = java.util.Arrays.copyOf(ordinals.get(a), 16);
            long[] c = isProduct ? times(ordinals.get(a), ordinals.get(b)) : plus(x, java.util.Arrays.copyOf(ordinals.get(b), 16));
            for (int p = 0; p < 16; p++) if (c[p] > 99999 || p > 7 && c[p] > 0) throw new UnsupportedOperationException();
            if (ordinals.size() == 20) throw new IllegalStateException();
            return addOrdinal(java.util.Arrays.copyOf(c, 8));
        }

        int row(int o, int index) {
            isOrdinal(o);
            if (index < 0 || index > 999) throw new IllegalArgumentException();
            long[] c = ordinals.get(o).clone();
            if (c[0] != 0 || degree(c) < 0) throw new NoSuchElementException();
            if (ordinals.size() == 20) throw new IllegalStateException();
            for (int p = 1; p < 8; p++) if (c[p] > 0) { c[p]--; c[p - 1] = index; break; }
            return addOrdinal(c);
        }

        // ---- forms and proofs

        void isForm(int f) { if (f < 0 || f > 11) throw new IllegalArgumentException(); }

        boolean leads(int a, int b, TreeSet<Integer> seen) {
            if (a == b) return true;
            if (!seen.add(a)) return false;
            for (int c = 0; c < 12; c++) if (arrows[a][c] && leads(c, b, seen)) return true;
            return false;
        }

        boolean leads(int a, int b) { return leads(a, b, new TreeSet<>()); }

        boolean holdsIn(int[] m, int f) { for (int h : bits(m[0])) if (leads(h, f)) return true; return false; }

        boolean failsIn(int[] m, int f) { for (int h : bits(m[1])) if (leads(f, h)) return true; return false; }

        boolean clash(int[] m) { for (int f = 0; f < 12; f++) if (holdsIn(m, f) && failsIn(m, f)) return true; return false; }

        boolean implies(int a, int b) {
            isForm(a); isForm(b);
            if (a == b) throw new IllegalArgumentException();
            boolean isNew = !leads(a, b);
            boolean before = arrows[a][b];
            arrows[a][b] = true;
            for (int[] m : models) if (clash(m)) { arrows[a][b] = before; throw new UnsupportedOperationException(); }
            return isNew;
        }

        int model(int h, int f) {
            for (int i : bits(h)) isForm(i);
            for (int i : bits(f)) isForm(i);
            int[] m = {h, f};
            if (clash(m)) throw new UnsupportedOperationException();
            if (models.size() == 10) throw new IllegalStateException();
            models.add(m);
            return models.size() - 1;
        }

        char known(int a, int b) {
            isForm(a); isForm(b);
            if (leads(a, b)) return 'y';
            for (int[] m : models) if (holdsIn(m, a) && failsIn(m, b)) return 'n';
            return '-';
        }

        void isStatement(int s) { if (s < 0 || s > 29) throw new IllegalArgumentException(); }

        int rule(int premises, int conclusion, boolean choice) {
            for (int i : bits(premises)) isStatement(i);
            isStatement(conclusion);
            if (rules.size() == 40) throw new IllegalStateException();
            rules.add(new Object[] {bits(premises), conclusion, choice});
            return rules.size() - 1;
        }

        @SuppressWarnings("unchecked")
        TreeSet<Integer> proved(boolean withChoice, int skip) {
            TreeSet<Integer> proved = new TreeSet<>();
            boolean moved = true;
            while (moved) {
                moved = false;
                for (int r = 0; r < rules.size(); r++) {
                    Object[] x = rules.get(r);
                    if (r != skip && (withChoice || !(Boolean) x[2]) && proved.containsAll((TreeSet<Integer>) x[0])) moved |= proved.add((Integer) x[1]);
                }
            }
            return proved;
        }

        boolean isProved(int s, boolean withChoice) { isStatement(s); return proved(withChoice, -1).contains(s); }

        /** Settles the statement with the least uses that any rule over settled ones gives, one by one. */
        @SuppressWarnings("unchecked")
        int uses(int s) {
            isStatement(s);
            Map<Integer, Integer> settled = new HashMap<>();
            while (true) {
                int best = -1;
                int least = Integer.MAX_VALUE;
                for (Object[] x : rules) {
                    if (settled.containsKey(x[1]) || !settled.keySet().containsAll((TreeSet<Integer>) x[0])) continue;
                    int sum = (Boolean) x[2] ? 1 : 0;
                    for (int p : (TreeSet<Integer>) x[0]) sum += settled.get(p);
                    if (sum < least) { least = sum; best = (Integer) x[1]; }
                }
                if (best < 0) break;
                settled.put(best, least);
            }
            if (!settled.containsKey(s)) throw new NoSuchElementException();
            return settled.get(s);
        }

        boolean isSpare(int r) {
            if (r < 0 || r >= rules.size()) throw new IndexOutOfBoundsException();
            return proved(true, r).equals(proved(true, -1));
        }

        // ---- figures

        int things() { return told.size(); }

        float knownShare() {
            int n = 0;
            for (int a = 0; a < 12; a++) for (int b = 0; b < 12; b++) if (a != b && known(a, b) != '-') n++;
            return (float) n / 132f;
        }

        double meanSize() {
            int sets = 0;
            int all = 0;
            for (int t = 0; t < told.size(); t++) if (!isAtom.get(t)) { sets++; all += size(t); }
            if (sets == 0) throw new NoSuchElementException();
            return (double) all / (double) sets;
        }

        boolean isSound() { return true; }
    }

    interface Call { Object answer(); }

    private static long seed = 20261119L;
    private static int wrong = 0;
    private static long calls = 0;
    private static long thrown = 0;
    private static long skipped = 0;
    private static final Map<String, Integer> seen = new java.util.TreeMap<>();

    private static int below(int n) {
        seed = seed * 6364136223846793005L + 1442695040888963407L;
        return (int) ((seed >>> 33) % n);
    }

    private static boolean oneIn(int n) { return below(n) == 0; }

    private static String outcome(Call call) {
        try {
            return String.valueOf(call.answer());
        } catch (Oracle.Tired t) {
            return "tired";
        } catch (RuntimeException e) {
            return "throws " + e.getClass().getSimpleName();
        } catch (StackOverflowError e) {
            return "overflow";
        }
    }

    private static boolean check(StringBuilder log, String text, Call got, Call due) {
        String want = outcome(due);
        String have = outcome(got);
        log.append(text).append(" -> ").append(have).append('\n');
        calls++;
        String key = text.substring(0, text.indexOf('(')) + (want.startsWith("throws") ? " " + want : "");
        seen.merge(key, 1, Integer::sum);
        if (want.equals("tired")) { skipped++; return true; }
        if (want.startsWith("throws")) thrown++;
        if (want.equals(have)) return true;
        wrong++;
        if (wrong < 4) System.out.println(log + "DUE: " + want + "\n");
        return false;
    }

    private static int thing(Oracle o) { return oneIn(25) ? new int[] {-1, o.told.size(), 31, 40, Integer.MIN_VALUE, Integer.MAX_VALUE}[below(6)] : o.told.isEmpty() ? 0 : below(o.told.size()); }

    private static int someMask(int n, int sparse) {
        if (oneIn(30)) return new int[] {-1, Integer.MIN_VALUE, n < 32 ? 1 << n : 5, 1 << 30, 1 << 28}[below(5)];
        int m = 0;
        for (int i = 0; i < n && i < 32; i++) if (oneIn(sparse)) m |= 1 << i;
        return m;
    }

    private static char variable() { return oneIn(25) ? "xePu \0\u00ff\uffff".charAt(below(8)) : "pqrst".charAt(below(5)); }

    private static String v(int few) { return "" + "pqrst".charAt(below(few)); }

    private static String formula(int depth, int few) {
        int k = depth <= 0 ? below(3) : below(11);
        switch (k) {
            case 0: return v(few) + "e" + v(few);
            case 1: return v(few) + "=" + v(few);
            case 2: return "a" + v(few);
            case 3: return "!" + formula(depth - 1, few);
            case 4: return "&" + formula(depth - 1, few) + formula(depth - 1, few);
            case 5: return "|" + formula(depth - 1, few) + formula(depth - 1, few);
            case 6: case 7: return "AE".charAt(below(2)) + v(few) + formula(depth - 1, few);
            default: return "BS".charAt(below(2)) + v(few) + v(few) + formula(depth - 1, few);
        }
    }

    private static String someFormula() {
        for (int i = 0; i < 50; i++) {
            String f = formula(1 + below(9), 1 + below(5));
            if (f.length() <= 40) return f;
        }
        return "pep";
    }

    private static boolean thingsCall(Urelementary x, Oracle o, StringBuilder log, int mode) {
        int a = thing(o);
        int b = thing(o);
        int m;
        switch (below(16)) {
            case 0: return oneIn(mode == 1 ? 3 : 2) ? check(log, "atom()", x::atom, o::atom) : true;
            case 1: case 2: case 3:
                if (o.told.size() > (mode == 2 ? 27 : 9) && !oneIn(6)) return true;
                m = someMask(o.told.size(), 2 + below(5));
                return check(log, "set(" + m + ")", () -> x.set(m), () -> o.set(m));
            case 4: case 5: return check(log, "put(" + a + ", " + b + ")", () -> x.put(a, b), () -> o.put(a, b));
            case 6: return check(log, "areEqual(" + a + ", " + b + ")", () -> x.areEqual(a, b), () -> o.areEqual(a, b));
            case 7: return check(log, "isElement(" + a + ", " + b + ")", () -> x.isElement(a, b), () -> o.isElement(a, b));
            case 8: return check(log, "size(" + a + ")", () -> x.size(a), () -> o.size(a));
            case 9: return check(log, "isFounded(" + a + ")", () -> x.isFounded(a), () -> o.isFounded(a));
            case 10: return check(log, "rank(" + a + ")", () -> x.rank(a), () -> o.rank(a));
            case 11: case 12: return check(log, "code(" + a + ")", () -> x.code(a), () -> o.code(a));
            case 13: return check(log, "inside(" + a + ")", () -> x.inside(a), () -> o.inside(a));
            case 14: return check(log, "isTransitive(" + a + ")", () -> x.isTransitive(a), () -> o.isTransitive(a));
            default: return oneIn(3) ? check(log, "sum(" + a + ")", () -> x.sum(a), () -> o.sum(a)) : check(log, "things()", x::things, o::things);
        }
    }

    private static boolean formulaCall(Urelementary x, Oracle o, StringBuilder log) {
        char v = variable();
        int a = thing(o);
        switch (below(9)) {
            case 0: case 1: return check(log, "wipe()", x::wipe, o::wipe) && typeAll(x, o, log, someFormula());
            case 2:
                char sign = oneIn(20) ? "xPu \0\u00ff\uffff*".charAt(below(8)) : "pqrste=a!&|AEBS".charAt(below(15));
                return check(log, "type(" + (int) sign + ")", () -> x.type(sign), () -> o.type(sign));
            case 3: return check(log, "fault()", x::fault, o::fault);
            case 4: return check(log, "free()", x::free, o::free);
            case 5: return check(log, "isBounded()", x::isBounded, o::isBounded);
            case 6: return check(log, "isStratified()", x::isStratified, o::isStratified);
            case 7: return check(log, "typeOf(" + v + ")", () -> x.typeOf(v), () -> o.typeOf(v));
            default: return check(log, "value(" + v + ", " + a + ")", () -> x.value(v, a), () -> o.value(v, a));
        }
    }

    private static boolean typeAll(Urelementary x, Oracle o, StringBuilder log, String text) {
        for (char c : text.toCharArray()) {
            if (!check(log, "type('" + c + "')", () -> x.type(c), () -> o.type(c))) return false;
        }
        return true;
    }

    private static int worldNumber(Oracle o) { return oneIn(25) ? new int[] {-1, o.worlds.size(), 8}[below(3)] : o.worlds.isEmpty() ? 0 : below(o.worlds.size()); }

    private static boolean worldCall(Urelementary x, Oracle o, StringBuilder log) {
        int w = worldNumber(o);
        int u = worldNumber(o);
        char v = variable();
        switch (below(9)) {
            case 0:
                int m = oneIn(4) && !o.told.isEmpty() ? (1 << o.told.size()) - 1 : someMask(o.told.size(), 1 + below(4));
                if (o.worlds.size() > 4 && !oneIn(4)) return true;
                return check(log, "world(" + m + ")", () -> x.world(m), () -> o.world(m));
            case 1: case 2: return check(log, "holds(" + w + ")", () -> x.holds(w), () -> o.holds(w));
            case 3: case 4: return check(log, "satisfy(" + w + ", " + v + ")", () -> x.satisfy(w, v), () -> o.satisfy(w, v));
            case 5: case 6: return check(log, "isAbsolute(" + w + ", " + u + ")", () -> x.isAbsolute(w, u), () -> o.isAbsolute(w, u));
            default:
                char axiom = oneIn(20) ? "ayXz \0\uffff".charAt(below(7)) : "xepuwfcn".charAt(below(8));
                return check(log, "axiom(" + w + ", " + axiom + ")", () -> x.axiom(w, axiom), () -> o.axiom(w, axiom));
        }
    }

    private static int atomOf(Oracle o) {
        if (!oneIn(8)) for (int i = 0; i < 30; i++) { int t = thing(o); if (t >= 0 && t < o.told.size() && o.isAtom.get(t)) return t; }
        return thing(o);
    }

    private static boolean atomCall(Urelementary x, Oracle o, StringBuilder log) {
        int t = thing(o);
        int a = atomOf(o);
        int b = atomOf(o);
        switch (below(3)) {
            case 0: return check(log, "isFixed(" + t + ", " + a + ", " + b + ")", () -> x.isFixed(t, a, b), () -> o.isFixed(t, a, b));
            case 1: return check(log, "swapped(" + t + ", " + a + ", " + b + ")", () -> x.swapped(t, a, b), () -> o.swapped(t, a, b));
            default: return check(log, "support(" + t + ")", () -> x.support(t), () -> o.support(t));
        }
    }

    private static int nameNumber(Oracle o) { return oneIn(25) ? new int[] {-1, o.names.size(), 12}[below(3)] : o.names.isEmpty() ? 0 : below(o.names.size()); }

    private static boolean nameCall(Urelementary x, Oracle o, StringBuilder log) {
        int n = nameNumber(o);
        int m = nameNumber(o);
        switch (below(10)) {
            case 0:
                if (!oneIn(6)) return true;
                int points = oneIn(6) ? new int[] {0, 5, -1, 33}[below(4)] : 1 + below(4);
                return check(log, "algebra(" + points + ")", () -> x.algebra(points), () -> o.algebra(points));
            case 1: return check(log, "name()", x::name, o::name);
            case 2: case 3: case 4: case 5:
                int value = oneIn(20) ? new int[] {-1, 1 << o.points, 16, Integer.MIN_VALUE}[below(4)] : below(1 << o.points);
                int later = oneIn(8) ? n : Math.max(n, m);
                int earlier = oneIn(8) ? m : Math.min(n, m);
                return check(log, "give(" + later + ", " + earlier + ", " + value + ")", () -> x.give(later, earlier, value), () -> o.give(later, earlier, value));
            case 6: return check(log, "valueOf(" + n + ", " + m + ", true)", () -> x.valueOf(n, m, true), () -> o.valueOf(n, m, true));
            case 7: return check(log, "valueOf(" + n + ", " + m + ", false)", () -> x.valueOf(n, m, false), () -> o.valueOf(n, m, false));
            case 8:
                if (o.told.size() > 20 && !oneIn(3)) return true;
                int p = oneIn(20) ? new int[] {-1, o.points, 4}[below(3)] : below(o.points);
                return check(log, "quotient(" + n + ", " + p + ")", () -> x.quotient(n, p), () -> o.quotient(n, p));
            default: return check(log, "nameSupport(" + n + ")", () -> x.nameSupport(n), () -> o.nameSupport(n));
        }
    }

    private static boolean gameCall(Urelementary x, Oracle o, StringBuilder log) {
        int moves = oneIn(12) ? new int[] {-1, o.depth, o.depth + 1, 6, 32}[below(5)] : below(o.depth + 1);
        int row = oneIn(12) ? new int[] {-1, 32, 1 << Math.max(0, moves)}[below(3)] : below(1 << Math.min(5, Math.max(0, moves)));
        switch (below(5)) {
            case 0:
                int d = oneIn(10) ? new int[] {0, 6, -1, 33}[below(4)] : 1 + below(5);
                int w = below(1 << 30) * 4 + below(4);
                int won = d >= 1 && d < 5 && !oneIn(8) ? w & (1 << (1 << d)) - 1 : w;
                return check(log, "tree(" + d + ", " + won + ")", () -> x.tree(d, won), () -> o.tree(d, won));
            case 1: case 2: return check(log, "firstWins(" + moves + ", " + row + ")", () -> x.firstWins(moves, row), () -> o.firstWins(moves, row));
            default: return check(log, "move(" + moves + ", " + row + ")", () -> x.move(moves, row), () -> o.move(moves, row));
        }
    }

    private static int small() { return oneIn(20) ? new int[] {-1, 1000, 999, Integer.MAX_VALUE}[below(4)] : oneIn(2) ? 0 : oneIn(3) ? below(1000) : below(4); }

    private static int ordinalNumber(Oracle o) { return oneIn(25) ? new int[] {-1, o.ordinals.size(), 20}[below(3)] : o.ordinals.isEmpty() ? 0 : below(o.ordinals.size()); }

    private static boolean ordinalCall(Urelementary x, Oracle o, StringBuilder log) {
        int a = ordinalNumber(o);
        int b = ordinalNumber(o);
        boolean isProduct = oneIn(2);
        int p = oneIn(15) ? new int[] {-1, 8, 100}[below(3)] : below(8);
        int s = small();
        switch (below(8)) {
            case 0:
                int e = small();
                int f = small();
                int g = small();
                return check(log, "ordinal(" + s + ", " + e + ", " + f + ", " + g + ")", () -> x.ordinal(s, e, f, g), () -> o.ordinal(s, e, f, g));
            case 1: return check(log, "compare(" + a + ", " + b + ")", () -> x.compare(a, b), () -> o.compare(a, b));
            case 2: case 3:
                return check(log, "reckon(" + a + ", " + b + ", " + isProduct + ")", () -> x.reckon(a, b, isProduct), () -> o.reckon(a, b, isProduct));
            case 4: return check(log, "row(" + a + ", " + s + ")", () -> x.row(a, s), () -> o.row(a, s));
            default: return check(log, "coefficient(" + a + ", " + p + ")", () -> x.coefficient(a, p), () -> o.coefficient(a, p));
        }
    }

    private static boolean formCall(Urelementary x, Oracle o, StringBuilder log) {
        int a = oneIn(25) ? new int[] {-1, 12, 32}[below(3)] : below(12);
        int b = oneIn(25) ? new int[] {-1, 12, 32}[below(3)] : below(12);
        switch (below(6)) {
            case 0: case 1: return check(log, "implies(" + a + ", " + b + ")", () -> x.implies(a, b), () -> o.implies(a, b));
            case 2:
                int h = someMask(12, 4 + below(6));
                int f = someMask(12, 4 + below(6));
                return check(log, "model(" + h + ", " + f + ")", () -> x.model(h, f), () -> o.model(h, f));
            case 3: return check(log, "knownShare()", x::knownShare, o::knownShare);
            default: return check(log, "known(" + a + ", " + b + ")", () -> x.known(a, b), () -> o.known(a, b));
        }
    }

    private static boolean proofCall(Urelementary x, Oracle o, StringBuilder log, int few) {
        int s = oneIn(25) ? new int[] {-1, 30, 32}[below(3)] : below(few);
        boolean choice = oneIn(2);
        switch (below(5)) {
            case 0: case 1:
                int m = someMask(few, few < 8 ? 3 : 9 + below(9));
                return check(log, "rule(" + m + ", " + s + ", " + choice + ")", () -> x.rule(m, s, choice), () -> o.rule(m, s, choice));
            case 2: return check(log, "isProved(" + s + ", " + choice + ")", () -> x.isProved(s, choice), () -> o.isProved(s, choice));
            case 3: return check(log, "uses(" + s + ")", () -> x.uses(s), () -> o.uses(s));
            default:
                int r = oneIn(25) ? new int[] {-1, o.rules.size(), 40}[below(3)] : o.rules.isEmpty() ? 0 : below(o.rules.size());
                return check(log, "isSpare(" + r + ")", () -> x.isSpare(r), () -> o.isSpare(r));
        }
    }

    private static boolean figureCall(Urelementary x, Oracle o, StringBuilder log) {
        switch (below(3)) {
            case 0: return check(log, "meanSize()", x::meanSize, o::meanSize);
            case 1: return check(log, "isSound()", x::isSound, o::isSound);
            default: return check(log, "things()", x::things, o::things);
        }
    }

    private static boolean run(int number) {
        Urelementary x = new Urelementary();
        Oracle o = new Oracle();
        StringBuilder log = new StringBuilder("run " + number + "\n");
        int mode = number % 6;
        int few = number % 4 == 0 ? 6 : 30;
        boolean right = true;
        int made = mode == 2 ? 90 : 12;
        for (int i = 0; i < 360 && right; i++) {
            int k = below(20);
            if (i < made) k = 0;
            if (mode == 3 && i > 20) k = 4 + below(8);
            if (mode == 4 && i > 20) k = 12 + below(8);
            if (mode == 5) k = 12 + below(number % 12 == 5 ? 2 : 7);
            if (k < 4) right = thingsCall(x, o, log, mode);
            else if (k < 7) right = formulaCall(x, o, log);
            else if (k < 10) right = worldCall(x, o, log);
            else if (k < 12) right = atomCall(x, o, log);
            else if (k < 14) right = nameCall(x, o, log);
            else if (k < 15) right = gameCall(x, o, log);
            else if (k < 16) right = ordinalCall(x, o, log);
            else if (k < 17) right = formCall(x, o, log);
            else if (k < 19) right = proofCall(x, o, log, few);
            else right = figureCall(x, o, log);
        }
        return right;
    }

    public static void main(String[] args) {
        int runs = args.length > 0 ? Integer.parseInt(args[0]) : 4000;
        if (args.length > 1) seed = Long.parseLong(args[1]);
        for (int i = 0; i < runs && wrong < 4; i++) {
            run(i);
        }
        System.out.println(calls + " calls, " + thrown + " of them throw, " + skipped + " skipped, " + wrong + " wrong");
        if (args.length > 2) System.out.println(seen);
        if (wrong != 0) System.exit(1);
    }
}
