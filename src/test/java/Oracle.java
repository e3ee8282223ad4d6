import java.util.ArrayList;
import java.util.Arrays;
import java.util.List;
import java.util.TreeMap;
import java.util.TreeSet;

/**
 * The document's terms written out a second time, by other ways than NameForge goes and with no
 * thought of speed, so that an error is not likely to stand in both.
 */
final class Oracle {
    /** An instruction: kind, d, x, y. */
    final List<List<int[]>> blocks = new ArrayList<>();
    /** An END: its kind (0 STOP, 1 GO, 2 IF), x, t, u. */
    final List<int[]> ends = new ArrayList<>();
    final List<Integer> input = new ArrayList<>();

    final TreeSet<Integer> reached = new TreeSet<>();
    final List<TreeSet<Integer>> dominators = new ArrayList<>();
    final List<TreeSet<Integer>> phis = new ArrayList<>();
    /** A name: its block (-1 at first), its instruction (-1 for a phi), its variable. */
    final List<int[]> names = new ArrayList<>();
    final TreeSet<Integer> comeTo = new TreeSet<>();
    /** Of each name: null for nothing yet, an empty array for ANY, otherwise the number. */
    int[][] values;
    final TreeSet<Integer> needed = new TreeSet<>();

    final List<Integer> told = new ArrayList<>();
    int blocksRun;
    int done;
    int asked;

    void build() {
        reach(0);
        findDominators();
        findPhis();
        for (int v = 0; v < 6; v++) {
            names.add(new int[] {-1, -1, v});
        }
        nameFrom(0);
        findKnown();
        findNeeded();
    }

    TreeSet<Integer> leadsTo(int b) {
        TreeSet<Integer> to = new TreeSet<>();
        int[] end = ends.get(b);
        if (end[0] == 1) {
            to.add(end[2]);
        }
        if (end[0] == 2) {
            to.add(end[2]);
            to.add(end[3]);
        }
        return to;
    }

    TreeSet<Integer> predecessors(int c) {
        TreeSet<Integer> found = new TreeSet<>();
        for (int b : reached) {
            if (leadsTo(b).contains(c)) {
                found.add(b);
            }
        }
        return found;
    }

    private void reach(int b) {
        if (reached.add(b)) {
            for (int c : leadsTo(b)) {
                reach(c);
            }
        }
    }

    /** Sets shrink from "all" to those that dominate every predecessor. */
    private void findDominators() {
        for (int b = 0; b < blocks.size(); b++) {
            dominators.add(b == 0 ? new TreeSet<>(List.of(0)) : new TreeSet<>(reached));
        }
        for (boolean again = true; again; ) {
            again = false;
            for (int c : reached) {
                if (c != 0) {
                    TreeSet<Integer> common = new TreeSet<>(reached);
                    for (int p : predecessors(c)) {
                        common.retainAll(dominators.get(p));
                    }
                    common.add(c);
                    again |= !common.equals(dominators.set(c, common));
                }
            }
        }
    }

    boolean dominates(int b, int c) {
        return reached.contains(c) && dominators.get(c).contains(b);
    }

    int parent(int c) {
        if (c == 0 || !reached.contains(c)) {
            return -1;
        }
        TreeSet<Integer> others = new TreeSet<>(dominators.get(c));
        others.remove(c);
        for (int p : others) {
            if (dominators.get(p).containsAll(others)) {
                return p;
            }
        }
        throw new AssertionError("no parent");
    }

    private boolean inFrontier(int b, int c) {
        boolean outside = b == c || !dominates(b, c);
        return outside && predecessors(c).stream().anyMatch(p -> dominates(b, p));
    }

    private boolean defines(int b, int v) {
        return phis.get(b).contains(v)
            || blocks.get(b).stream().anyMatch(i -> i[0] != 7 && i[1] == v);
    }

    private void findPhis() {
        for (int b = 0; b < blocks.size(); b++) {
            phis.add(new TreeSet<>());
        }
        for (boolean again = true; again; ) {
            again = false;
            for (int b : reached) {
                for (int c : reached) {
                    for (int v = 0; v < 6; v++) {
                        if (inFrontier(b, c) && defines(b, v)) {
                            again |= phis.get(c).add(v);
                        }
                    }
                }
            }
        }
    }

    private void nameFrom(int b) {
        for (int v : phis.get(b)) {
            names.add(new int[] {b, -1, v});
        }
        for (int i = 0; i < blocks.get(b).size(); i++) {
            int[] instruction = blocks.get(b).get(i);
            if (instruction[0] != 7) {
                names.add(new int[] {b, i, instruction[1]});
            }
        }
        for (int c : reached) {
            if (parent(c) == b) {
                nameFrom(c);
            }
        }
    }

    int nameAt(int b, int i, int v) {
        for (int n = 0; n < names.size(); n++) {
            if (Arrays.equals(names.get(n), new int[] {b, i, v})) {
                return n;
            }
        }
        throw new AssertionError("no name");
    }

    /** The latest name of v before instruction i of block b. */
    int latest(int b, int i, int v) {
        for (int j = i - 1; j >= 0; j--) {
            int[] instruction = blocks.get(b).get(j);
            if (instruction[0] != 7 && instruction[1] == v) {
                return nameAt(b, j, v);
            }
        }
        if (phis.get(b).contains(v)) {
            return nameAt(b, -1, v);
        }
        return b == 0 ? v : latestAtEnd(parent(b), v);
    }

    int latestAtEnd(int b, int v) {
        return latest(b, blocks.get(b).size(), v);
    }

    int ifName(int b) {
        return ends.get(b)[0] == 2 && reached.contains(b) ? latestAtEnd(b, ends.get(b)[1]) : -1;
    }

    /** What instruction i of block b sets (0), or uses as x (1) or y (2); -1 for none. */
    int uses(int b, int i, int what) {
        int[] instruction = blocks.get(b).get(i);
        int kind = instruction[0];
        if (what == 0) {
            return kind == 7 ? -1 : nameAt(b, i, instruction[1]);
        }
        boolean two = kind == 2 || kind == 3 || kind == 4 || kind == 5;
        boolean has = what == 1 ? two || kind == 1 || kind == 7 : two;
        return has ? latest(b, i, instruction[1 + what]) : -1;
    }

    /** All at once from the state before, again and again from nothing at all, until it stays. */
    private void findKnown() {
        values = new int[names.size()][];
        comeTo.add(0);
        for (int round = 0; round < 1000; round++) {
            int[][] next = new int[names.size()][];
            for (int n = 0; n < names.size(); n++) {
                next[n] = evaluate(n);
            }
            TreeSet<Integer> come = new TreeSet<>(List.of(0));
            for (int b : comeTo) {
                come.addAll(taken(b));
            }
            boolean stays = come.equals(comeTo) && Arrays.deepEquals(next, values);
            values = next;
            comeTo.addAll(come);
            if (stays) {
                return;
            }
        }
        throw new AssertionError("it does not settle");
    }

    TreeSet<Integer> taken(int b) {
        TreeSet<Integer> ways = new TreeSet<>();
        if (!comeTo.contains(b)) {
            return ways;
        }
        int[] end = ends.get(b);
        if (end[0] == 1) {
            ways.add(end[2]);
        }
        if (end[0] == 2) {
            int[] value = values[ifName(b)];
            if (value != null && (value.length == 0 || value[0] != 0)) {
                ways.add(end[2]);
            }
            if (value != null && (value.length == 0 || value[0] == 0)) {
                ways.add(end[3]);
            }
        }
        return ways;
    }

    private int[] evaluate(int n) {
        int b = names.get(n)[0];
        int i = names.get(n)[1];
        if (b == -1) {
            return new int[] {0};
        }
        if (!comeTo.contains(b)) {
            return null;
        }
        if (i == -1) {
            return meet(phiParts(n));
        }
        int[] instruction = blocks.get(b).get(i);
        if (instruction[0] == 0) {
            return new int[] {instruction[2]};
        }
        if (instruction[0] == 6) {
            return new int[0];
        }
        int[] x = values[uses(b, i, 1)];
        int[] y = instruction[0] == 1 ? new int[] {0} : values[uses(b, i, 2)];
        if (x != null && x.length == 0 || y != null && y.length == 0) {
            return new int[0];
        }
        return x == null || y == null ? null : new int[] {compute(instruction[0], x[0], y[0])};
    }

    List<Integer> phiParts(int n) {
        List<Integer> parts = new ArrayList<>();
        int b = names.get(n)[0];
        for (int p : predecessors(b)) {
            if (taken(p).contains(b)) {
                parts.add(latestAtEnd(p, names.get(n)[2]));
            }
        }
        return parts;
    }

    private int[] meet(List<Integer> parts) {
        TreeSet<Integer> numbers = new TreeSet<>();
        for (int n : parts) {
            if (values[n] != null && values[n].length == 0) {
                return new int[0];
            }
            if (values[n] != null) {
                numbers.add(values[n][0]);
            }
        }
        if (numbers.isEmpty()) {
            return null;
        }
        return numbers.size() > 1 ? new int[0] : new int[] {numbers.first()};
    }

    static int compute(int kind, int x, int y) {
        long a = x;
        long b = y;
        switch (kind) {
            case 1: return x;
            case 2: return (int) (a + b);
            case 3: return (int) (a - b);
            case 4: return (int) (a * b);
            case 5: return a - b < 0 ? 1 : 0;
            default: throw new AssertionError("kind " + kind);
        }
    }

    boolean isNumber(int n) {
        return values[n] != null && values[n].length == 1;
    }

    private void findNeeded() {
        for (int b : comeTo) {
            for (int i = 0; i < blocks.get(b).size(); i++) {
                int kind = blocks.get(b).get(i)[0];
                if (kind == 7) {
                    need(uses(b, i, 1));
                }
                if (kind == 6) {
                    need(uses(b, i, 0));
                }
            }
            int tested = ifName(b);
            if (tested != -1 && !isNumber(tested)) {
                need(tested);
            }
        }
    }

    private void need(int n) {
        if (n == -1 || !needed.add(n) || isNumber(n)) {
            return;
        }
        int b = names.get(n)[0];
        int i = names.get(n)[1];
        if (i == -1) {
            phiParts(n).forEach(this::need);
        } else {
            need(uses(b, i, 1));
            need(uses(b, i, 2));
        }
    }

    int run(boolean plain, int steps) {
        told.clear();
        blocksRun = 0;
        done = 0;
        asked = 0;
        int[] variables = new int[6];
        TreeMap<Integer, Integer> slots = new TreeMap<>();
        int from = -1;
        int at = 0;
        while (blocksRun < steps) {
            blocksRun++;
            if (plain) {
                doPlain(at, variables);
            } else {
                doBecome(from, at, slots);
            }
            int[] end = ends.get(at);
            if (end[0] == 0) {
                return 0;
            }
            boolean no = end[0] == 2 && (plain ? variables[end[1]] : slot(slots, ifName(at))) == 0;
            from = at;
            at = no ? end[3] : end[2];
        }
        return 1;
    }

    private void doPlain(int b, int[] variables) {
        for (int[] i : blocks.get(b)) {
            done++;
            switch (i[0]) {
                case 0: variables[i[1]] = i[2]; break;
                case 1: variables[i[1]] = variables[i[2]]; break;
                case 6: variables[i[1]] = ask(); break;
                case 7: told.add(variables[i[2]]); break;
                default: variables[i[1]] = compute(i[0], variables[i[2]], variables[i[3]]);
            }
        }
    }

    private void doBecome(int from, int b, TreeMap<Integer, Integer> slots) {
        TreeMap<Integer, Integer> chosen = new TreeMap<>();
        for (int v : phis.get(b)) {
            chosen.put(nameAt(b, -1, v), slot(slots, latestAtEnd(from, v)));
        }
        slots.putAll(chosen);
        for (int i = 0; i < blocks.get(b).size(); i++) {
            int kind = blocks.get(b).get(i)[0];
            if (kind == 7) {
                done++;
                told.add(slot(slots, uses(b, i, 1)));
                continue;
            }
            int made = uses(b, i, 0);
            if (needed.contains(made) && !isNumber(made)) {
                done++;
                int y = uses(b, i, 2) == -1 ? 0 : slot(slots, uses(b, i, 2));
                slots.put(made, kind == 6 ? ask() : compute(kind, slot(slots, uses(b, i, 1)), y));
            }
        }
    }

    private int slot(TreeMap<Integer, Integer> slots, int n) {
        return isNumber(n) ? values[n][0] : slots.getOrDefault(n, 0);
    }

    private int ask() {
        return asked < input.size() ? input.get(asked++) : 0;
    }
}
