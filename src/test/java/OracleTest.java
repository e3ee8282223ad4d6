import java.util.Arrays;
import java.util.NoSuchElementException;

/** Many programs, made by a fixed row of numbers, asked for everything and compared with Oracle. */
public final class OracleTest {
    private static final int PROGRAMS = 3000;
    /** What a forge answers where the document asks for a NoSuchElementException. */
    private static final long THROWS = Long.MIN_VALUE;
    private static long seed = 20261115;
    private static Oracle before = null;

    private static int numbersSeen;
    private static int anysSeen;
    private static int nothingsSeen;
    private static int unneededSeen;
    private static int shorterSeen;

    public static void main(String[] args) {
        for (int k = 0; k < PROGRAMS; k++) {
            Oracle oracle = makeProgram();
            oracle.build();
            String id = "program " + k + " ";
            compareLook(id, oracle);
            comparePhis(id, oracle);
            compareUses(id, oracle);
            compareNames(id, oracle);
            compareRuns(id, oracle);
            before = oracle;
        }
        Check.holds("the programs are of many kinds", numbersSeen > 500 && anysSeen > 500
            && nothingsSeen > 500 && unneededSeen > 500 && shorterSeen > 500);
        Check.end();
    }

    private static int pick(int below) {
        seed = seed * 6364136223846793005L + 1442695040888963407L;
        return (int) ((seed >>> 33) % below);
    }

    private static Oracle makeProgram() {
        Oracle oracle = new Oracle();
        int blocks = 1 + pick(10);
        int most = 1 + pick(6);
        int asks = pick(3);
        for (int b = 0; b < blocks; b++) {
            oracle.blocks.add(new java.util.ArrayList<>());
            int length = pick(most + 1);
            for (int i = 0; i < length; i++) {
                oracle.blocks.get(b).add(makeInstruction(asks));
            }
            oracle.ends.add(makeEnd(b, blocks));
        }
        int inputs = pick(17);
        for (int i = 0; i < inputs; i++) {
            oracle.input.add(pick(3) == 0 ? 0 : pick(20) - 10);
        }
        return oracle;
    }

    private static int[] makeInstruction(int asks) {
        int kind = pick(8);
        if (kind == 6 && pick(3) >= asks) {
            kind = 0;
        }
        int d = pick(6);
        int x = kind == 0 ? makeNumber() : pick(6);
        return new int[] {kind, d, x, pick(6)};
    }

    private static int makeNumber() {
        int[] edges = {Integer.MIN_VALUE, Integer.MAX_VALUE, 46341, -1};
        return pick(8) == 0 ? edges[pick(edges.length)] : pick(3);
    }

    private static int[] makeEnd(int b, int blocks) {
        if (blocks == 1 || pick(8) == 0) {
            return new int[] {0, 0, 0, 0};
        }
        int t = makeTarget(b, blocks);
        int u = makeTarget(b, blocks);
        return pick(3) == 0 ? new int[] {1, 0, t, t} : new int[] {2, pick(6), t, u};
    }

    /** Mostly forwards, so that many blocks are reached and few runs turn for ever. */
    private static int makeTarget(int b, int blocks) {
        return pick(3) > 0 && b + 1 < blocks ? b + 1 + pick(Math.min(3, blocks - b - 1)) : 1 + pick(blocks - 1);
    }

    /**
     * A forge with the program built. Each set of questions has its own, within 512 calls, and it
     * has had another program before, of which nothing may be left.
     */
    private static NameForge forge(Oracle oracle) {
        NameForge forge = new NameForge();
        if (before != null) {
            write(forge, before);
            forge.run(false, 50);
            forge.clear();
            forge.take();
        }
        write(forge, oracle);
        return forge;
    }

    private static void write(NameForge forge, Oracle oracle) {
        for (int b = 0; b < oracle.blocks.size(); b++) {
            forge.block();
        }
        for (int b = 0; b < oracle.blocks.size(); b++) {
            for (int[] i : oracle.blocks.get(b)) {
                forge.put(b, i[0], i[1], i[2], i[3]);
            }
            int[] end = oracle.ends.get(b);
            if (end[0] == 1) {
                forge.go(b, end[2]);
            } else if (end[0] == 2) {
                forge.fork(b, end[1], end[2], end[3]);
            }
        }
        for (int v : oracle.input) {
            forge.give(v);
        }
        Check.same("build()", forge.build(), oracle.names.size());
    }

    private static void compareLook(String id, Oracle o) {
        NameForge forge = forge(o);
        for (int b = 0; b < o.blocks.size(); b++) {
            int[] due = {o.reached.contains(b) ? 1 : 0, o.parent(b), o.phis.get(b).size(),
                o.comeTo.contains(b) ? 1 : 0, o.blocks.get(b).size(), o.ifName(b)};
            for (int what = 0; what < due.length; what++) {
                Check.same(id + "look(" + b + ", " + what + ")", forge.look(b, what), due[what]);
            }
        }
    }

    private interface Call {
        int answer();
    }

    private static long answerOf(Call call) {
        try {
            return call.answer();
        } catch (NoSuchElementException e) {
            return THROWS;
        }
    }

    private static void comparePhis(String id, Oracle o) {
        for (int b = 0; b < o.blocks.size(); b++) {
            NameForge forge = forge(o);
            Integer[] variables = o.phis.get(b).toArray(new Integer[0]);
            for (int k = -1; k <= variables.length; k++) {
                for (int what = -3; what <= o.blocks.size(); what++) {
                    boolean has = k >= 0 && k < variables.length;
                    long due = has ? phiDue(o, b, variables[k], what) : THROWS;
                    int block = b;
                    int index = k;
                    int asked = what;
                    Check.same(id + "phi(" + b + ", " + k + ", " + what + ")",
                        answerOf(() -> forge.phi(block, index, asked)), due);
                }
            }
        }
    }

    private static long phiDue(Oracle o, int b, int variable, int what) {
        if (what == -1) {
            return o.nameAt(b, -1, variable);
        }
        if (what == -2) {
            return variable;
        }
        return o.predecessors(b).contains(what) ? o.latestAtEnd(what, variable) : THROWS;
    }

    private static void compareUses(String id, Oracle o) {
        for (int b = 0; b < o.blocks.size(); b++) {
            NameForge forge = forge(o);
            for (int i = -1; i <= o.blocks.get(b).size(); i++) {
                for (int what = -1; what <= 3; what++) {
                    boolean has = o.reached.contains(b) && i >= 0 && i < o.blocks.get(b).size()
                        && what >= 0 && what <= 2;
                    int block = b;
                    int index = i;
                    int asked = what;
                    Check.same(id + "uses(" + b + ", " + i + ", " + what + ")",
                        answerOf(() -> forge.uses(block, index, asked)), has ? o.uses(b, i, what) : THROWS);
                }
            }
        }
    }

    private static void compareNames(String id, Oracle o) {
        NameForge values = forge(o);
        NameForge places = forge(o);
        for (int n = 0; n < o.names.size(); n++) {
            int state = o.values[n] == null ? 0 : o.isNumber(n) ? 1 : 2;
            count(state, o.needed.contains(n));
            Check.same(id + "name(" + n + ", 0)", values.name(n, 0), state);
            Check.same(id + "name(" + n + ", 1)", values.name(n, 1), state == 1 ? o.values[n][0] : 0);
            Check.same(id + "name(" + n + ", 2)", places.name(n, 2), o.needed.contains(n) ? 1 : 0);
            Check.same(id + "name(" + n + ", 3)", places.name(n, 3), o.names.get(n)[0]);
        }
        Check.same(id + "name past the last", answerOf(() -> places.name(o.names.size(), 0)), THROWS);
    }

    private static void count(int state, boolean isNeeded) {
        numbersSeen += state == 1 ? 1 : 0;
        anysSeen += state == 2 ? 1 : 0;
        nothingsSeen += state == 0 ? 1 : 0;
        unneededSeen += isNeeded ? 0 : 1;
    }

    private static void compareRuns(String id, Oracle o) {
        for (int steps : new int[] {0, 1, 2, 1 + pick(20), 200}) {
            NameForge forge = forge(o);
            int[] plain = compareRun(id + steps + " steps plain ", o, forge, true, steps);
            int[] become = compareRun(id + steps + " steps become ", o, forge, false, steps);
            shorterSeen += become[1] < plain[1] ? 1 : 0;
            Check.holds(id + "is no longer than before", become[1] <= plain[1]);
            plain[1] = 0;
            become[1] = 0;
            Check.holds(id + "does the same as before", Arrays.equals(plain, become));
        }
    }

    private static int[] compareRun(String id, Oracle o, NameForge forge, boolean plain, int steps) {
        int answer = forge.run(plain, steps);
        Check.same(id + "run", answer, o.run(plain, steps));
        Check.same(id + "told", forge.told(), o.told.size());
        Check.same(id + "spent(0)", forge.spent(0), o.blocksRun);
        Check.same(id + "spent(1)", forge.spent(1), o.done);
        Check.same(id + "spent(2)", forge.spent(2), o.asked);
        int[] seen = new int[45];
        for (int k = 0; k <= 40; k++) {
            int index = k;
            boolean isKept = k < 40 && k < o.told.size();
            Check.same(id + "heard(" + k + ")", answerOf(() -> forge.heard(index)),
                isKept ? o.told.get(k) : THROWS);
            seen[4 + k] = isKept ? forge.heard(k) : 0;
        }
        seen[0] = answer;
        seen[1] = forge.spent(1);
        seen[2] = forge.spent(0);
        seen[3] = forge.told();
        return seen;
    }
}
