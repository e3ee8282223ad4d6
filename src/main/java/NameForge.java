import java.util.Arrays;
import java.util.NoSuchElementException;

/**
 * A middle end for small programs of blocks: dominance, names with phis, what is known of them,
 * what is needed of them, and runs of the program as it was written and as it has become.
 */
public final class NameForge {
    private static final int MOST_BLOCKS = 10;
    private static final int MOST_INSTRUCTIONS = 6;
    private static final int VARIABLES = 6;
    private static final int MOST_NAMES = VARIABLES + MOST_BLOCKS * (VARIABLES + MOST_INSTRUCTIONS);
    private static final int MOST_INPUT = 16;
    private static final int MOST_KEPT = 40;
    private static final int MOST_STEPS = 200;

    // A round that is not the last one adds a phi, raises a name (each at most twice) or takes a
    // way, so there are fewer than 300 of them: this only makes the end of the loops plain to see.
    private static final int MOST_ROUNDS = 1000;

    private static final int SET = 0;
    private static final int COPY = 1;
    private static final int ADD = 2;
    private static final int SUBTRACT = 3;
    private static final int MULTIPLY = 4;
    private static final int LESS = 5;
    private static final int ASK = 6;
    private static final int TELL = 7;

    private static final int END_STOP = 0;
    private static final int END_GO = 1;
    private static final int END_IF = 2;

    private static final int NOTHING = 0;
    private static final int NUMBER = 1;
    private static final int ANY = 2;

    private static final int NONE = -1;
    private static final int PHI_NAME = -1;
    private static final int PHI_VARIABLE = -2;

    private final Program program;
    private final Shape shape;
    private final Naming naming;
    private final Known known;
    private final Needed needed;
    private final Machine machine;
    private boolean built;

    public NameForge() {
        program = new Program();
        shape = new Shape(program);
        naming = new Naming(program, shape);
        known = new Known(program, shape, naming);
        needed = new Needed(program, naming, known);
        machine = new Machine(program, naming, known, needed);
        built = false;
    }

    public int block() throws IllegalStateException {
        if (program.blocks >= MOST_BLOCKS) {
            throw new IllegalStateException("there are 10 blocks");
        }
        built = false;
        return program.addBlock();
    }

    public int put(int block, int kind, int d, int x, int y)
            throws IllegalArgumentException, IllegalStateException {
        if (!program.has(block) || !isInstruction(kind, d, x, y)) {
            throw new IllegalArgumentException("no such block, kind or variable");
        }
        if (program.length[block] >= MOST_INSTRUCTIONS) {
            throw new IllegalStateException("the block has 6 instructions");
        }
        built = false;
        return program.append(block, kind, d, x, y);
    }

    public void go(int block, int t) throws IllegalArgumentException {
        if (!program.has(block) || !program.isTarget(t)) {
            throw new IllegalArgumentException("no such block, or none to go to");
        }
        built = false;
        program.setEnd(block, END_GO, 0, t, t);
    }

    public void fork(int block, int x, int t, int u) throws IllegalArgumentException {
        if (!program.has(block) || !isVariable(x) || !program.isTarget(t) || !program.isTarget(u)) {
            throw new IllegalArgumentException("no such block or variable, or none to go to");
        }
        built = false;
        program.setEnd(block, END_IF, x, t, u);
    }

    public void stop(int block) throws IllegalArgumentException {
        if (!program.has(block)) {
            throw new IllegalArgumentException("no such block");
        }
        built = false;
        program.setEnd(block, END_STOP, 0, 0, 0);
    }

    public void clear() {
        built = false;
        program.blocks = 0;
    }

    public int build() throws IllegalStateException {
        if (program.blocks == 0) {
            throw new IllegalStateException("there is no block");
        }
        shape.survey();
        naming.nameAll();
        known.settle();
        needed.collect();
        built = true;
        return naming.names;
    }

    public int look(int block, int what) throws NoSuchElementException, IllegalStateException {
        if (!program.has(block) || what < 0 || what > 5) {
            throw new NoSuchElementException("no such block or what");
        }
        if (!built) {
            throw new IllegalStateException("it is not built");
        }
        switch (what) {
            case 0:
                return holds(shape.reached, block) ? 1 : 0;
            case 1:
                return shape.parent[block];
            case 2:
                return Integer.bitCount(naming.phis[block]);
            case 3:
                return holds(known.comeTo, block) ? 1 : 0;
            case 4:
                return program.length[block];
            default:
                return naming.tested[block];
        }
    }

    public int phi(int block, int k, int what) throws NoSuchElementException, IllegalStateException {
        if (!built) {
            throw new IllegalStateException("it is not built");
        }
        int variable = program.has(block) ? naming.phiVariable(block, k) : NONE;
        if (variable == NONE || !isPhiWhat(block, what)) {
            throw new NoSuchElementException("no such phi or what");
        }
        if (what == PHI_NAME) {
            return naming.phiName[block][variable];
        }
        if (what == PHI_VARIABLE) {
            return variable;
        }
        return naming.atEnd[what][variable];
    }

    public int uses(int block, int i, int what) throws NoSuchElementException, IllegalStateException {
        if (!built) {
            throw new IllegalStateException("it is not built");
        }
        if (!isReachedInstruction(block, i) || what < 0 || what > 2) {
            throw new NoSuchElementException("no such instruction or what");
        }
        switch (what) {
            case 0:
                return naming.made[block][i];
            case 1:
                return naming.usedX[block][i];
            default:
                return naming.usedY[block][i];
        }
    }

    public int name(int name, int what) throws NoSuchElementException, IllegalStateException {
        if (!built) {
            throw new IllegalStateException("it is not built");
        }
        if (name < 0 || name >= naming.names || what < 0 || what > 3) {
            throw new NoSuchElementException("no such name or what");
        }
        switch (what) {
            case 0:
                return known.state[name];
            case 1:
                return known.number[name];
            case 2:
                return needed.isNeeded[name] ? 1 : 0;
            default:
                return naming.home[name];
        }
    }

    public boolean give(int v) {
        return machine.addInput(v);
    }

    public void take() {
        machine.inputs = 0;
    }

    public int run(boolean plain, int steps) throws IllegalArgumentException, IllegalStateException {
        if (steps < 0 || steps > MOST_STEPS) {
            throw new IllegalArgumentException("steps are 0 to 200");
        }
        if (!built) {
            throw new IllegalStateException("it is not built");
        }
        return machine.execute(plain, steps) ? 0 : 1;
    }

    public int told() {
        return machine.tellings;
    }

    public int heard(int k) throws NoSuchElementException {
        if (k < 0 || k >= MOST_KEPT || k >= machine.tellings) {
            throw new NoSuchElementException("not kept");
        }
        return machine.kept[k];
    }

    public int spent(int what) {
        switch (what) {
            case 0:
                return machine.blocksRun;
            case 1:
                return machine.instructionsDone;
            case 2:
                return machine.inputsAsked;
            default:
                return -1;
        }
    }

    private boolean isPhiWhat(int block, int what) {
        if (what == PHI_NAME || what == PHI_VARIABLE) {
            return true;
        }
        return program.has(what) && holds(shape.before[block], what);
    }

    private boolean isReachedInstruction(int block, int i) {
        return program.has(block) && holds(shape.reached, block) && i >= 0 && i < program.length[block];
    }

    private static boolean isInstruction(int kind, int d, int x, int y) {
        return kind >= SET && kind <= TELL
                && (!setsVariable(kind) || isVariable(d))
                && (!readsX(kind) || isVariable(x))
                && (!readsY(kind) || isVariable(y));
    }

    private static boolean isVariable(int v) {
        return v >= 0 && v < VARIABLES;
    }

    private static boolean setsVariable(int kind) {
        return kind != TELL;
    }

    private static boolean readsX(int kind) {
        return kind != SET && kind != ASK;
    }

    private static boolean readsY(int kind) {
        return kind >= ADD && kind <= LESS;
    }

    private static int calculate(int kind, int x, int y) {
        switch (kind) {
            case SET:
            case COPY:
                return x;
            case ADD:
                return x + y;
            case SUBTRACT:
                return x - y;
            case MULTIPLY:
                return x * y;
            case LESS:
                return x < y ? 1 : 0;
            default:
                return 0;
        }
    }

    private static int bit(int k) {
        return 1 << k;
    }

    private static boolean holds(int set, int k) {
        return (set & bit(k)) != 0;
    }

    /** The program as it was written. */
    private static final class Program {
        int blocks;
        final int[] length = new int[MOST_BLOCKS];
        final int[][] kind = new int[MOST_BLOCKS][MOST_INSTRUCTIONS];
        final int[][] d = new int[MOST_BLOCKS][MOST_INSTRUCTIONS];
        final int[][] x = new int[MOST_BLOCKS][MOST_INSTRUCTIONS];
        final int[][] y = new int[MOST_BLOCKS][MOST_INSTRUCTIONS];
        final int[] end = new int[MOST_BLOCKS];
        final int[] test = new int[MOST_BLOCKS];
        final int[] yes = new int[MOST_BLOCKS];
        final int[] no = new int[MOST_BLOCKS];

        boolean has(int block) {
            return block >= 0 && block < blocks;
        }

        boolean isTarget(int block) {
            return block != 0 && has(block);
        }

        int addBlock() {
            int block = blocks;
            length[block] = 0;
            setEnd(block, END_STOP, 0, 0, 0);
            blocks++;
            return block;
        }

        int append(int block, int newKind, int newD, int newX, int newY) {
            int i = length[block];
            kind[block][i] = newKind;
            d[block][i] = newD;
            x[block][i] = newX;
            y[block][i] = newY;
            length[block] = i + 1;
            return length[block];
        }

        void setEnd(int block, int newEnd, int variable, int t, int u) {
            end[block] = newEnd;
            test[block] = variable;
            yes[block] = t;
            no[block] = u;
        }

        /** The set of blocks to which the END of a block may lead. */
        int ways(int block) {
            return end[block] == END_STOP ? 0 : bit(yes[block]) | bit(no[block]);
        }
    }

    /** What is reached and what dominates what. Sets of blocks are kept as the bits of an int. */
    private static final class Shape {
        private final Program program;
        int reached;
        final int[] before = new int[MOST_BLOCKS];
        final int[] under = new int[MOST_BLOCKS];
        final int[] parent = new int[MOST_BLOCKS];
        final int[] frontier = new int[MOST_BLOCKS];
        final int[] order = new int[MOST_BLOCKS];
        int ordered;
        private final int[] waiting = new int[MOST_BLOCKS];

        Shape(Program program) {
            this.program = program;
        }

        void survey() {
            reached = comeBy(0);
            for (int b = 0; b < program.blocks; b++) {
                before[b] = findBefore(b);
                // What cannot be reached once b is barred is what b dominates.
                under[b] = holds(reached, b) ? reached & ~comeBy(bit(b)) : 0;
            }
            for (int b = 0; b < program.blocks; b++) {
                parent[b] = findParent(b);
                frontier[b] = findFrontier(b);
            }
            putInOrder();
        }

        private int comeBy(int barred) {
            int seen = bit(0) & ~barred;
            for (int round = 1; round < program.blocks; round++) {
                for (int b = 0; b < program.blocks; b++) {
                    if (holds(seen, b)) {
                        seen |= program.ways(b) & ~barred;
                    }
                }
            }
            return seen;
        }

        private int findBefore(int block) {
            int found = 0;
            for (int b = 0; b < program.blocks; b++) {
                if (holds(reached, b) && holds(program.ways(b), block)) {
                    found |= bit(b);
                }
            }
            return found;
        }

        private int findParent(int block) {
            int found = NONE;
            for (int b = 0; b < program.blocks; b++) {
                if (b != block && holds(under[b], block) && (found == NONE || holds(under[found], b))) {
                    found = b;
                }
            }
            return found;
        }

        private int findFrontier(int block) {
            int found = 0;
            for (int c = 0; c < program.blocks; c++) {
                boolean outside = c == block || !holds(under[block], c);
                if (outside && (before[c] & under[block]) != 0) {
                    found |= bit(c);
                }
            }
            return found;
        }

        private void putInOrder() {
            ordered = 0;
            waiting[0] = 0;
            int open = 1;
            for (int step = 0; step < program.blocks && open > 0; step++) {
                open--;
                int b = waiting[open];
                order[ordered] = b;
                ordered++;
                // The last one put is the first one gone over, so the lowest number comes last.
                for (int c = program.blocks - 1; c > 0; c--) {
                    if (parent[c] == b) {
                        waiting[open] = c;
                        open++;
                    }
                }
            }
        }
    }

    /** Where phis stand, and which name each variable has at each place. */
    private static final class Naming {
        private final Program program;
        private final Shape shape;
        int names;
        final int[] phis = new int[MOST_BLOCKS];
        private final int[] defined = new int[MOST_BLOCKS];
        final int[][] phiName = new int[MOST_BLOCKS][VARIABLES];
        final int[][] atEnd = new int[MOST_BLOCKS][VARIABLES];
        final int[][] made = new int[MOST_BLOCKS][MOST_INSTRUCTIONS];
        final int[][] usedX = new int[MOST_BLOCKS][MOST_INSTRUCTIONS];
        final int[][] usedY = new int[MOST_BLOCKS][MOST_INSTRUCTIONS];
        final int[] tested = new int[MOST_BLOCKS];
        final int[] home = new int[MOST_NAMES];
        final int[] row = new int[MOST_NAMES];
        final int[] variable = new int[MOST_NAMES];

        Naming(Program program, Shape shape) {
            this.program = program;
            this.shape = shape;
        }

        void nameAll() {
            findDefined();
            placePhis();
            Arrays.fill(tested, NONE);
            names = 0;
            for (int v = 0; v < VARIABLES; v++) {
                newName(NONE, NONE, v);
            }
            for (int k = 0; k < shape.ordered; k++) {
                nameBlock(shape.order[k]);
            }
        }

        /** The variable of phi k of a block, NONE if it has fewer. */
        int phiVariable(int block, int k) {
            int left = k;
            for (int v = 0; v < VARIABLES; v++) {
                if (holds(phis[block], v)) {
                    if (left == 0) {
                        return v;
                    }
                    left--;
                }
            }
            return NONE;
        }

        private void findDefined() {
            for (int b = 0; b < program.blocks; b++) {
                defined[b] = 0;
                for (int i = 0; i < program.length[b]; i++) {
                    if (setsVariable(program.kind[b][i])) {
                        defined[b] |= bit(program.d[b][i]);
                    }
                }
            }
        }

        private void placePhis() {
            Arrays.fill(phis, 0);
            boolean changed = true;
            for (int round = 0; changed && round < MOST_ROUNDS; round++) {
                changed = false;
                for (int b = 0; b < program.blocks; b++) {
                    if (spread(shape.frontier[b], defined[b] | phis[b])) {
                        changed = true;
                    }
                }
            }
        }

        private boolean spread(int blocks, int variables) {
            boolean changed = false;
            for (int c = 0; c < program.blocks; c++) {
                if (holds(blocks, c) && (variables & ~phis[c]) != 0) {
                    phis[c] |= variables;
                    changed = true;
                }
            }
            return changed;
        }

        private void nameBlock(int block) {
            int[] latest = atEnd[block];
            int above = shape.parent[block];
            for (int v = 0; v < VARIABLES; v++) {
                latest[v] = above == NONE ? v : atEnd[above][v];
            }
            for (int v = 0; v < VARIABLES; v++) {
                if (holds(phis[block], v)) {
                    latest[v] = newName(block, NONE, v);
                    phiName[block][v] = latest[v];
                }
            }
            for (int i = 0; i < program.length[block]; i++) {
                nameInstruction(block, i, latest);
            }
            if (program.end[block] == END_IF) {
                tested[block] = latest[program.test[block]];
            }
        }

        private void nameInstruction(int block, int i, int[] latest) {
            int kind = program.kind[block][i];
            usedX[block][i] = readsX(kind) ? latest[program.x[block][i]] : NONE;
            usedY[block][i] = readsY(kind) ? latest[program.y[block][i]] : NONE;
            made[block][i] = NONE;
            if (setsVariable(kind)) {
                int v = program.d[block][i];
                latest[v] = newName(block, i, v);
                made[block][i] = latest[v];
            }
        }

        private int newName(int block, int i, int v) {
            int name = names;
            home[name] = block;
            row[name] = i;
            variable[name] = v;
            names++;
            return name;
        }
    }

    /**
     * Which blocks are come to and what values names have. All begins at the least and is only ever
     * raised as far as the rules ask, so that the first state in which they hold is the least one.
     */
    private static final class Known {
        private final Program program;
        private final Shape shape;
        private final Naming naming;
        int comeTo;
        final int[] taken = new int[MOST_BLOCKS];
        final int[] state = new int[MOST_NAMES];
        final int[] number = new int[MOST_NAMES];
        private boolean changed;

        Known(Program program, Shape shape, Naming naming) {
            this.program = program;
            this.shape = shape;
            this.naming = naming;
        }

        void settle() {
            Arrays.fill(taken, 0);
            Arrays.fill(state, NOTHING);
            Arrays.fill(number, 0);
            for (int v = 0; v < VARIABLES; v++) {
                state[v] = NUMBER;
            }
            comeTo = bit(0);
            changed = true;
            for (int round = 0; changed && round < MOST_ROUNDS; round++) {
                changed = false;
                for (int k = 0; k < shape.ordered; k++) {
                    if (holds(comeTo, shape.order[k])) {
                        passBlock(shape.order[k]);
                    }
                }
            }
        }

        boolean isWayTaken(int from, int to) {
            return holds(taken[from], to);
        }

        private void passBlock(int block) {
            for (int v = 0; v < VARIABLES; v++) {
                if (holds(naming.phis[block], v)) {
                    passPhi(block, v);
                }
            }
            for (int i = 0; i < program.length[block]; i++) {
                if (naming.made[block][i] != NONE) {
                    passInstruction(block, i);
                }
            }
            passEnd(block);
        }

        private void passPhi(int block, int v) {
            for (int b = 0; b < program.blocks; b++) {
                if (isWayTaken(b, block)) {
                    int from = naming.atEnd[b][v];
                    raise(naming.phiName[block][v], state[from], number[from]);
                }
            }
        }

        private void passInstruction(int block, int i) {
            int kind = program.kind[block][i];
            int x = naming.usedX[block][i];
            int y = naming.usedY[block][i];
            int stateX = x == NONE ? NUMBER : state[x];
            int stateY = y == NONE ? NUMBER : state[y];
            int made = naming.made[block][i];
            if (kind == ASK || stateX == ANY || stateY == ANY) {
                raise(made, ANY, 0);
            } else if (stateX == NUMBER && stateY == NUMBER) {
                int valueX = x == NONE ? program.x[block][i] : number[x];
                int valueY = y == NONE ? 0 : number[y];
                raise(made, NUMBER, calculate(kind, valueX, valueY));
            }
        }

        private void raise(int name, int newState, int newNumber) {
            if (newState == NOTHING || state[name] == ANY) {
                return;
            }
            if (state[name] == NOTHING) {
                state[name] = newState;
                number[name] = newNumber;
                changed = true;
            } else if (newState == ANY || newNumber != number[name]) {
                state[name] = ANY;
                number[name] = 0;
                changed = true;
            }
        }

        private void passEnd(int block) {
            int now = taken[block] | waysTaken(block);
            if (now != taken[block]) {
                taken[block] = now;
                comeTo |= now;
                changed = true;
            }
        }

        private int waysTaken(int block) {
            int test = naming.tested[block];
            if (test == NONE || state[test] == ANY) {
                return program.ways(block);
            }
            if (state[test] == NOTHING) {
                return 0;
            }
            return bit(number[test] != 0 ? program.yes[block] : program.no[block]);
        }
    }

    /** Which names are needed. */
    private static final class Needed {
        private final Program program;
        private final Naming naming;
        private final Known known;
        final boolean[] isNeeded = new boolean[MOST_NAMES];
        private final int[] list = new int[MOST_NAMES];
        private int listed;

        Needed(Program program, Naming naming, Known known) {
            this.program = program;
            this.naming = naming;
            this.known = known;
        }

        void collect() {
            listed = 0;
            for (int n = 0; n < MOST_NAMES; n++) {
                isNeeded[n] = false;
            }
            for (int b = 0; b < program.blocks; b++) {
                if (holds(known.comeTo, b)) {
                    needByBlock(b);
                }
            }
            // The list grows while it is gone through, but no name stands in it twice.
            for (int k = 0; k < listed && k < MOST_NAMES; k++) {
                if (known.state[list[k]] != NUMBER) {
                    needPartsOf(list[k]);
                }
            }
        }

        private void needByBlock(int block) {
            for (int i = 0; i < program.length[block]; i++) {
                int kind = program.kind[block][i];
                if (kind == TELL) {
                    need(naming.usedX[block][i]);
                } else if (kind == ASK) {
                    need(naming.made[block][i]);
                }
            }
            int test = naming.tested[block];
            if (test != NONE && known.state[test] == ANY) {
                need(test);
            }
        }

        private void needPartsOf(int name) {
            int block = naming.home[name];
            int i = naming.row[name];
            if (block == NONE) {
                return;
            }
            if (i == NONE) {
                needPartsOfPhi(block, naming.variable[name]);
            } else {
                need(naming.usedX[block][i]);
                need(naming.usedY[block][i]);
            }
        }

        private void needPartsOfPhi(int block, int v) {
            for (int b = 0; b < program.blocks; b++) {
                if (known.isWayTaken(b, block)) {
                    need(naming.atEnd[b][v]);
                }
            }
        }

        private void need(int name) {
            if (name != NONE && !isNeeded[name]) {
                isNeeded[name] = true;
                list[listed] = name;
                listed++;
            }
        }
    }

    /** Runs the program; it has the input, and keeps what the latest run told and spent. */
    private static final class Machine {
        private final Program program;
        private final Naming naming;
        private final Known known;
        private final Needed needed;
        int inputs;
        private final int[] input = new int[MOST_INPUT];
        private final int[] ofVariable = new int[VARIABLES];
        private final int[] ofName = new int[MOST_NAMES];
        private final int[] chosen = new int[VARIABLES];
        int tellings;
        final int[] kept = new int[MOST_KEPT];
        int blocksRun;
        int instructionsDone;
        int inputsAsked;

        Machine(Program program, Naming naming, Known known, Needed needed) {
            this.program = program;
            this.naming = naming;
            this.known = known;
            this.needed = needed;
        }

        boolean addInput(int v) {
            if (inputs >= MOST_INPUT) {
                return false;
            }
            input[inputs] = v;
            inputs++;
            return true;
        }

        /** Whether the program stopped within so many blocks. */
        boolean execute(boolean plain, int steps) {
            begin();
            int from = NONE;
            int at = 0;
            for (int step = 0; step < steps; step++) {
                blocksRun++;
                int next = plain ? passPlain(at) : passBecome(from, at);
                if (next == NONE) {
                    return true;
                }
                from = at;
                at = next;
            }
            return false;
        }

        private void begin() {
            Arrays.fill(ofVariable, 0);
            Arrays.fill(ofName, 0);
            tellings = 0;
            blocksRun = 0;
            instructionsDone = 0;
            inputsAsked = 0;
        }

        private int passPlain(int block) {
            for (int i = 0; i < program.length[block]; i++) {
                int kind = program.kind[block][i];
                int x = program.x[block][i];
                int y = program.y[block][i];
                int valueX = readsX(kind) ? ofVariable[x] : x;
                int valueY = readsY(kind) ? ofVariable[y] : 0;
                int result = perform(kind, valueX, valueY);
                if (setsVariable(kind)) {
                    ofVariable[program.d[block][i]] = result;
                }
            }
            return nextOf(block, ofVariable[program.test[block]]);
        }

        private int passBecome(int from, int block) {
            if (from != NONE) {
                choose(from, block);
            }
            for (int i = 0; i < program.length[block]; i++) {
                int made = naming.made[block][i];
                if (made == NONE || isKept(made)) {
                    int valueX = valueOf(naming.usedX[block][i]);
                    int valueY = valueOf(naming.usedY[block][i]);
                    int result = perform(program.kind[block][i], valueX, valueY);
                    if (made != NONE) {
                        ofName[made] = result;
                    }
                }
            }
            return nextOf(block, valueOf(naming.tested[block]));
        }

        private void choose(int from, int block) {
            for (int v = 0; v < VARIABLES; v++) {
                chosen[v] = valueOf(naming.atEnd[from][v]);
            }
            for (int v = 0; v < VARIABLES; v++) {
                if (holds(naming.phis[block], v)) {
                    ofName[naming.phiName[block][v]] = chosen[v];
                }
            }
        }

        private boolean isKept(int name) {
            return needed.isNeeded[name] && known.state[name] != NUMBER;
        }

        private int valueOf(int name) {
            if (name == NONE) {
                return 0;
            }
            return known.state[name] == NUMBER ? known.number[name] : ofName[name];
        }

        private int perform(int kind, int x, int y) {
            instructionsDone++;
            if (kind == TELL) {
                keep(x);
            }
            return kind == ASK ? nextInput() : calculate(kind, x, y);
        }

        private void keep(int v) {
            if (tellings < MOST_KEPT) {
                kept[tellings] = v;
            }
            tellings++;
        }

        private int nextInput() {
            if (inputsAsked >= inputs) {
                return 0;
            }
            int v = input[inputsAsked];
            inputsAsked++;
            return v;
        }

        private int nextOf(int block, int tested) {
            if (program.end[block] == END_STOP) {
                return NONE;
            }
            return tested != 0 ? program.yes[block] : program.no[block];
        }
    }
}
