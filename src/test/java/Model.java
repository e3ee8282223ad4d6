import java.util.ArrayList;
import java.util.List;

/**
 * The promises written out a second time, call by call, over Oracle for what is built. A call
 * answers a number, or one of the three below where it is to throw; a call without an answer, 0.
 */
final class Model {
    static final long ARGUMENT = Long.MIN_VALUE;
    static final long STATE = Long.MIN_VALUE + 1;
    static final long NO_ELEMENT = Long.MIN_VALUE + 2;

    private final List<List<int[]>> blocks = new ArrayList<>();
    private final List<int[]> ends = new ArrayList<>();
    private final List<Integer> input = new ArrayList<>();
    /** What was built, null when it is so no more. */
    private Oracle built = null;
    private List<Integer> told = List.of();
    private int[] spent = {0, 0, 0};

    int blocks() {
        return blocks.size();
    }

    boolean isBuilt() {
        return built != null;
    }

    int names() {
        return built == null ? 6 : built.names.size();
    }

    private boolean isBlock(int b) {
        return 0 <= b && b < blocks.size();
    }

    private static boolean isVariable(int v) {
        return 0 <= v && v <= 5;
    }

    long block() {
        if (blocks.size() == 10) {
            return STATE;
        }
        built = null;
        blocks.add(new ArrayList<>());
        ends.add(new int[] {0, 0, 0, 0});
        return blocks.size() - 1;
    }

    long put(int block, int kind, int d, int x, int y) {
        if (!isBlock(block) || kind < 0 || kind > 7) {
            return ARGUMENT;
        }
        // Of d, x and y: which of them are variables of this kind.
        String used = new String[] {"d", "dx", "dxy", "dxy", "dxy", "dxy", "d", "x"}[kind];
        if (used.contains("d") && !isVariable(d) || used.contains("x") && !isVariable(x)
                || used.contains("y") && !isVariable(y)) {
            return ARGUMENT;
        }
        if (blocks.get(block).size() == 6) {
            return STATE;
        }
        built = null;
        blocks.get(block).add(new int[] {kind, d, x, y});
        return blocks.get(block).size();
    }

    long go(int block, int t) {
        return end(block, t, t, new int[] {1, 0, t, t});
    }

    long fork(int block, int x, int t, int u) {
        return isVariable(x) ? end(block, t, u, new int[] {2, x, t, u}) : ARGUMENT;
    }

    long stop(int block) {
        return end(block, -1, -1, new int[] {0, 0, 0, 0});
    }

    private long end(int block, int t, int u, int[] end) {
        boolean leads = end[0] != 0;
        if (!isBlock(block) || leads && (t == 0 || u == 0 || !isBlock(t) || !isBlock(u))) {
            return ARGUMENT;
        }
        built = null;
        ends.set(block, end);
        return 0;
    }

    long clear() {
        built = null;
        blocks.clear();
        ends.clear();
        return 0;
    }

    long build() {
        if (blocks.isEmpty()) {
            return STATE;
        }
        built = new Oracle();
        for (List<int[]> block : blocks) {
            built.blocks.add(new ArrayList<>(block));
        }
        built.ends.addAll(ends);
        built.build();
        return built.names.size();
    }

    long look(int block, int what) {
        if (!isBlock(block) || what < 0 || what > 5) {
            return NO_ELEMENT;
        }
        if (built == null) {
            return STATE;
        }
        switch (what) {
            case 0: return built.reached.contains(block) ? 1 : 0;
            case 1: return built.parent(block);
            case 2: return built.phis.get(block).size();
            case 3: return built.comeTo.contains(block) ? 1 : 0;
            case 4: return blocks.get(block).size();
            default: return built.ifName(block);
        }
    }

    long phi(int block, int k, int what) {
        if (built == null) {
            return STATE;
        }
        if (!isBlock(block) || k < 0 || k >= built.phis.get(block).size()) {
            return NO_ELEMENT;
        }
        int variable = new ArrayList<>(built.phis.get(block)).get(k);
        if (what == -1) {
            return built.nameAt(block, -1, variable);
        }
        if (what == -2) {
            return variable;
        }
        return built.predecessors(block).contains(what) ? built.latestAtEnd(what, variable) : NO_ELEMENT;
    }

    long uses(int block, int i, int what) {
        if (built == null) {
            return STATE;
        }
        if (!isBlock(block) || !built.reached.contains(block) || i < 0 || i >= blocks.get(block).size()
                || what < 0 || what > 2) {
            return NO_ELEMENT;
        }
        return built.uses(block, i, what);
    }

    long name(int name, int what) {
        if (built == null) {
            return STATE;
        }
        if (name < 0 || name >= built.names.size() || what < 0 || what > 3) {
            return NO_ELEMENT;
        }
        int[] value = built.values[name];
        switch (what) {
            case 0: return value == null ? 0 : value.length == 1 ? 1 : 2;
            case 1: return built.isNumber(name) ? value[0] : 0;
            case 2: return built.needed.contains(name) ? 1 : 0;
            default: return built.names.get(name)[0];
        }
    }

    long give(int v) {
        return input.size() < 16 && input.add(v) ? 1 : 0;
    }

    long take() {
        input.clear();
        return 0;
    }

    long run(boolean plain, int steps) {
        if (steps < 0 || steps > 200) {
            return ARGUMENT;
        }
        if (built == null) {
            return STATE;
        }
        built.input.clear();
        built.input.addAll(input);
        int answer = built.run(plain, steps);
        told = new ArrayList<>(built.told);
        spent = new int[] {built.blocksRun, built.done, built.asked};
        return answer;
    }

    long told() {
        return told.size();
    }

    long heard(int k) {
        return k >= 0 && k < told.size() && k < 40 ? told.get(k) : NO_ELEMENT;
    }

    long spent(int what) {
        return what >= 0 && what <= 2 ? spent[what] : -1;
    }
}
