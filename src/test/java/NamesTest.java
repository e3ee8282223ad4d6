import java.util.NoSuchElementException;

/** Promises 8 to 12: what is built, and how it is looked at. */
public final class NamesTest {
    private static final Class<IllegalStateException> STATE = IllegalStateException.class;
    private static final Class<NoSuchElementException> NO_SUCH = NoSuchElementException.class;
    private static final int NOTHING = 0;
    private static final int NUMBER = 1;
    private static final int ANY = 2;

    public static void main(String[] args) {
        promise8CountsNames();
        promise8MostNames();
        promise8BuiltAgain();
        promise8NoPhisOfBefore();
        promise8NoNumbersOfBefore();
        promise8NoNeedsOfBefore();
        promise8NoPartsOfBefore();
        promise9Look();
        promise9Parents();
        promise9WrongInputs();
        promise10Phis();
        promise10PhisOfPhis();
        promise10SelfLoop();
        promise10WrongInputs();
        promise11Uses();
        promise11WrongInputs();
        promise12OrderOfNames();
        promise12NumbersMeet();
        promise12Arithmetic();
        promise12DeadWays();
        promise12WaysNotTaken();
        promise12Loops();
        promise12Needed();
        promise12WrongInputs();
        Check.end();
    }

    private static void value(NameForge forge, String what, int name, int state, int number) {
        Check.same(what + ": value of " + name, forge.name(name, 0), state);
        Check.same(what + ": number of " + name, forge.name(name, 1), number);
    }

    private static void promise8CountsNames() {
        NameForge forge = Made.blocks(3);
        Check.same("build() without instructions", forge.build(), 6);
        Check.same("build() again", forge.build(), 6);
        forge.put(0, Made.SET, 0, 1, 0);
        forge.put(0, Made.TELL, 0, 0, 0);
        Check.same("a TELL has no name", forge.build(), 7);
        forge.put(1, Made.SET, 0, 1, 0);
        Check.same("what is not reached has no name", forge.build(), 7);
        forge.go(0, 1);
        Check.same("what is reached has", forge.build(), 8);
        Check.same("build() of a diamond", Made.diamond(1, 2).build(), 10);
    }

    /** A ring of nine that is gone both ways: each has every phi, and six instructions. */
    private static void promise8MostNames() {
        NameForge forge = Made.blocks(10);
        for (int b = 0; b < 10; b++) {
            for (int i = 0; i < 6; i++) {
                forge.put(b, Made.ASK, i, 0, 0);
            }
            forge.fork(b, 0, b % 9 + 1, b < 2 ? 9 : b - 1);
        }
        Check.same("build()", forge.build(), 120);
        for (int b = 1; b < 10; b++) {
            Check.same("phis of " + b, forge.look(b, 2), 6);
        }
        Check.same("the last name", forge.name(119, 0), ANY);
        Check.fails("past the last name", NO_SUCH, () -> forge.name(120, 0));
        Check.same("run", forge.run(false, 200), 1);
    }

    private static void promise9Look() {
        NameForge forge = Made.blocks(4);
        forge.put(0, Made.SET, 2, 1, 0);
        forge.fork(0, 2, 1, 2);
        forge.put(3, Made.SET, 2, 1, 0);
        forge.put(3, Made.SET, 2, 1, 0);
        forge.fork(3, 2, 1, 1);
        forge.go(1, 2);
        forge.build();
        int[][] due = {{1, -1, 0, 1, 1, 6}, {1, 0, 0, 1, 0, -1}, {1, 0, 0, 1, 0, -1}, {0, -1, 0, 0, 2, -1}};
        for (int b = 0; b < 4; b++) {
            for (int what = 0; what < 6; what++) {
                Check.same("look(" + b + ", " + what + ")", forge.look(b, what), due[b][what]);
            }
        }
        forge.stop(1);
        forge.build();
        Check.same("2 is reached", forge.look(2, 0), 1);
        Check.same("2 is not come to", forge.look(2, 3), 0);
        forge.fork(0, 0, 1, 2);
        forge.build();
        Check.same("0 goes to u: 1 is not come to", forge.look(1, 3), 0);
        Check.same("0 goes to u: 2 is come to", forge.look(2, 3), 1);
        Check.same("the name of a variable at first", forge.look(0, 5), 0);
    }

    /** A way that enters the loop 3 - 4 twice: no block of it dominates the other. */
    private static void promise9Parents() {
        NameForge forge = Made.blocks(8);
        forge.fork(0, 0, 1, 2);
        forge.go(1, 3);
        forge.go(2, 4);
        forge.fork(3, 0, 4, 5);
        forge.go(4, 3);
        forge.fork(5, 1, 5, 6);
        forge.go(7, 6);
        forge.build();
        int[] due = {-1, 0, 0, 0, 0, 3, 5, -1};
        for (int b = 0; b < due.length; b++) {
            Check.same("parent of " + b, forge.look(b, 1), due[b]);
        }
    }

    private static void promise9WrongInputs() {
        NameForge forge = Made.blocks(2);
        for (int wrong : new int[] {-1, 2, 10, 32, Integer.MIN_VALUE, Integer.MAX_VALUE}) {
            Check.fails("look(" + wrong + ", 0) when not built", NO_SUCH, () -> forge.look(wrong, 0));
        }
        for (int wrong : new int[] {-1, 6, Integer.MIN_VALUE, Integer.MAX_VALUE}) {
            Check.fails("look(0, " + wrong + ") when not built", NO_SUCH, () -> forge.look(0, wrong));
        }
        for (int what = 0; what < 6; what++) {
            int asked = what;
            Check.fails("look(1, " + what + ") when not built", STATE, () -> forge.look(1, asked));
        }
        forge.build();
        Check.fails("look(2, 0)", NO_SUCH, () -> forge.look(2, 0));
        Check.fails("look(0, 6)", NO_SUCH, () -> forge.look(0, 6));
        Check.fails("look(0, -1)", NO_SUCH, () -> forge.look(0, -1));
    }

    private static void promise10Phis() {
        NameForge forge = Made.diamond(4, 5);
        Check.same("phis of 3", forge.look(3, 2), 1);
        Check.same("its name", forge.phi(3, 0, -1), 9);
        Check.same("its variable", forge.phi(3, 0, -2), 1);
        Check.same("for 1", forge.phi(3, 0, 1), 7);
        Check.same("for 2", forge.phi(3, 0, 2), 8);
        Check.same("both ways to one block make no phi", bothWaysToOne().look(1, 2), 0);
    }

    private static NameForge bothWaysToOne() {
        NameForge forge = Made.blocks(2);
        forge.put(0, Made.ASK, 0, 0, 0);
        forge.fork(0, 0, 1, 1);
        forge.put(1, Made.SET, 0, 1, 0);
        forge.build();
        return forge;
    }

    /** The phi in 3 defines v1 anew, and so the loop's head 4 has one for it, and so has 5. */
    private static void promise10PhisOfPhis() {
        NameForge forge = Made.blocks(6);
        forge.put(0, Made.ASK, 0, 0, 0);
        forge.fork(0, 0, 1, 4);
        forge.put(1, Made.SET, 5, 5, 0);
        forge.fork(1, 0, 2, 3);
        forge.put(2, Made.SET, 1, 6, 0);
        forge.go(2, 3);
        forge.fork(3, 0, 4, 5);
        forge.go(4, 5);
        Check.same("build()", forge.build(), 14);
        int[] phis = {0, 0, 0, 1, 2, 2};
        for (int b = 0; b < phis.length; b++) {
            Check.same("phis of " + b, forge.look(b, 2), phis[b]);
        }
        int[][] due = {{3, 0, 9, 1}, {4, 0, 10, 1}, {4, 1, 11, 5}, {5, 0, 12, 1}, {5, 1, 13, 5}};
        for (int[] d : due) {
            Check.same("name of phi", forge.phi(d[0], d[1], -1), d[2]);
            Check.same("variable of phi", forge.phi(d[0], d[1], -2), d[3]);
        }
        Check.same("v1 in 3 from 1", forge.phi(3, 0, 1), 1);
        Check.same("v1 in 3 from 2", forge.phi(3, 0, 2), 8);
        Check.same("v1 in 4 from 0", forge.phi(4, 0, 0), 1);
        Check.same("v1 in 4 from 3", forge.phi(4, 0, 3), 9);
        Check.same("v5 in 4 from 3", forge.phi(4, 1, 3), 7);
        Check.same("v5 in 5 from 3", forge.phi(5, 1, 3), 7);
        Check.same("v5 in 5 from 4", forge.phi(5, 1, 4), 11);
    }

    private static void promise10SelfLoop() {
        NameForge forge = Made.swap();
        Check.same("a block may be in its own frontier", forge.look(1, 2), 3);
        for (int k = 0; k < 3; k++) {
            Check.same("variable", forge.phi(1, k, -2), k);
            Check.same("name", forge.phi(1, k, -1), 8 + k);
        }
        Check.same("v0 from 0", forge.phi(1, 0, 0), 6);
        Check.same("v0 from 1", forge.phi(1, 0, 1), 12);
        Check.same("v1 from 1", forge.phi(1, 1, 1), 13);
        Check.same("v2 from 0", forge.phi(1, 2, 0), 2);
        Check.same("v2 from 1", forge.phi(1, 2, 1), 11);
    }

    private static void promise10WrongInputs() {
        NameForge forge = Made.diamond(4, 5);
        for (int block : new int[] {-1, 0, 1, 4, 10, 35, Integer.MIN_VALUE, Integer.MAX_VALUE}) {
            Check.fails("phi of block " + block, NO_SUCH, () -> forge.phi(block, 0, -1));
        }
        for (int k : new int[] {-1, 1, 6, 32, Integer.MIN_VALUE, Integer.MAX_VALUE}) {
            Check.fails("phi " + k, NO_SUCH, () -> forge.phi(3, k, -1));
        }
        for (int what : new int[] {-3, 0, 3, 4, 33, 34, Integer.MIN_VALUE, Integer.MAX_VALUE}) {
            Check.fails("phi for " + what, NO_SUCH, () -> forge.phi(3, 0, what));
        }
        forge.block();
        forge.go(4, 3);
        forge.build();
        Check.fails("one that is not reached is no predecessor", NO_SUCH, () -> forge.phi(3, 0, 4));
        forge.clear();
        Check.fails("not built comes first", STATE, () -> forge.phi(3, 0, -9));
    }

    private static void promise11Uses() {
        NameForge forge = Made.blocks(3);
        forge.put(0, Made.SET, 0, 3, 9);
        forge.put(0, Made.COPY, 1, 0, 9);
        forge.put(0, Made.ADD, 1, 1, 0);
        forge.put(0, Made.ASK, 2, 9, 9);
        forge.put(0, Made.TELL, 9, 2, 9);
        forge.put(0, Made.SUBTRACT, 2, 5, 2);
        forge.go(0, 1);
        forge.put(1, Made.MULTIPLY, 3, 2, 1);
        forge.put(1, Made.LESS, 3, 3, 0);
        forge.put(1, Made.TELL, 0, 4, 0);
        forge.build();
        int[][] first = {{6, -1, -1}, {7, 6, -1}, {8, 7, 6}, {9, -1, -1}, {-1, 9, -1}, {10, 5, 9}};
        int[][] second = {{11, 10, 8}, {12, 11, 6}, {-1, 4, -1}};
        compareUses(forge, 0, first);
        compareUses(forge, 1, second);
    }

    private static void compareUses(NameForge forge, int block, int[][] due) {
        for (int i = 0; i < due.length; i++) {
            for (int what = 0; what < 3; what++) {
                Check.same("uses(" + block + ", " + i + ", " + what + ")", forge.uses(block, i, what), due[i][what]);
            }
        }
    }

    private static void promise11WrongInputs() {
        NameForge forge = Made.blocks(2);
        forge.put(0, Made.SET, 0, 0, 0);
        forge.put(1, Made.SET, 0, 0, 0);
        Check.fails("not built comes first", STATE, () -> forge.uses(9, 9, 9));
        forge.build();
        Check.same("it has one", forge.uses(0, 0, 0), 6);
        for (int block : new int[] {-1, 1, 2, 10, 32, Integer.MIN_VALUE, Integer.MAX_VALUE}) {
            Check.fails("uses of block " + block, NO_SUCH, () -> forge.uses(block, 0, 0));
        }
        for (int i : new int[] {-1, 1, 6, Integer.MIN_VALUE, Integer.MAX_VALUE}) {
            Check.fails("uses of instruction " + i, NO_SUCH, () -> forge.uses(0, i, 0));
        }
        for (int what : new int[] {-1, 3, Integer.MIN_VALUE, Integer.MAX_VALUE}) {
            Check.fails("uses, what " + what, NO_SUCH, () -> forge.uses(0, 0, what));
        }
    }

    /** 3 stands under 1, so it is named before 2, although its number is higher. */
    private static void promise12OrderOfNames() {
        NameForge forge = Made.blocks(5);
        forge.fork(0, 0, 1, 2);
        forge.go(1, 3);
        forge.put(0, Made.ASK, 0, 0, 0);
        forge.put(1, Made.ASK, 1, 0, 0);
        forge.put(2, Made.ASK, 1, 0, 0);
        forge.put(3, Made.ASK, 1, 0, 0);
        forge.fork(2, 1, 4, 4);
        forge.go(3, 4);
        forge.put(4, Made.ASK, 1, 0, 0);
        Check.same("build()", forge.build(), 12);
        int[] due = {-1, -1, -1, -1, -1, -1, 0, 1, 3, 2, 4, 4};
        for (int n = 0; n < due.length; n++) {
            Check.same("block of name " + n, forge.name(n, 3), due[n]);
        }
        Check.same("phis come before instructions", forge.phi(4, 0, -1), 10);
        Check.same("of 4", forge.uses(4, 0, 0), 11);
    }

    private static void promise12NumbersMeet() {
        NameForge same = Made.diamond(7, 7);
        value(same, "the same twice", 9, NUMBER, 7);
        NameForge different = Made.diamond(7, 8);
        value(different, "two different ones", 9, ANY, 0);
        value(different, "ASK", 6, ANY, 0);
        value(different, "SET", 7, NUMBER, 7);
        for (int v = 0; v < 6; v++) {
            value(different, "at first", v, NUMBER, 0);
        }
    }

    private static void promise12Arithmetic() {
        int most = Integer.MAX_VALUE;
        int least = Integer.MIN_VALUE;
        int[][] due = {
            {Made.ADD, 2, 3, 5}, {Made.ADD, most, 1, least}, {Made.SUBTRACT, 2, 3, -1},
            {Made.SUBTRACT, least, 1, most}, {Made.MULTIPLY, -4, 3, -12}, {Made.MULTIPLY, 65536, 65536, 0},
            {Made.MULTIPLY, most, 2, -2}, {Made.LESS, 2, 3, 1}, {Made.LESS, 3, 3, 0}, {Made.LESS, 4, 3, 0},
            {Made.LESS, least, most, 1}, {Made.LESS, most, least, 0}, {Made.COPY, 9, 1, 9},
        };
        for (int[] d : due) {
            NameForge forge = Made.blocks(1);
            forge.put(0, Made.SET, 1, d[1], 0);
            forge.put(0, Made.SET, 2, d[2], 0);
            forge.put(0, d[0], 3, 1, 2);
            forge.put(0, Made.TELL, 0, 3, 0);
            forge.build();
            String what = "kind " + d[0] + " of " + d[1] + " and " + d[2];
            value(forge, what, 8, NUMBER, d[3]);
            forge.run(true, 1);
            Check.same(what + " plain", forge.heard(0), d[3]);
            forge.run(false, 1);
            Check.same(what + " as it has become", forge.heard(0), d[3]);
        }
        for (int kind = Made.ADD; kind <= Made.LESS; kind++) {
            NameForge forge = Made.blocks(1);
            forge.put(0, Made.ASK, 1, 0, 0);
            forge.put(0, kind, 2, 1, 0);
            forge.put(0, kind, 3, 0, 1);
            forge.put(0, kind, 4, 1, 1);
            forge.put(0, Made.COPY, 5, 4, 0);
            forge.build();
            for (int n = 7; n < 11; n++) {
                value(forge, "ANY makes ANY, kind " + kind, n, ANY, 0);
            }
        }
    }

    /** The IF is a number: the way to 2 is not taken, and its name does not count in the phi. */
    private static void promise12DeadWays() {
        NameForge forge = Made.blocks(4);
        forge.put(0, Made.SET, 0, -1, 0);
        forge.fork(0, 0, 1, 2);
        forge.put(1, Made.SET, 1, 4, 0);
        forge.go(1, 3);
        forge.put(2, Made.ASK, 1, 0, 0);
        forge.put(2, Made.TELL, 0, 1, 0);
        forge.go(2, 3);
        forge.put(3, Made.ADD, 2, 1, 1);
        forge.put(3, Made.TELL, 0, 2, 0);
        forge.build();
        value(forge, "not come to", 8, NOTHING, 0);
        Check.same("ASK is not needed where nobody comes", forge.name(8, 2), 0);
        Check.same("2 is reached", forge.look(2, 0), 1);
        Check.same("2 is not come to", forge.look(2, 3), 0);
        value(forge, "phi", 9, NUMBER, 4);
        value(forge, "ADD", 10, NUMBER, 8);
        Check.same("what is told is needed, a number too", forge.name(10, 2), 1);
        Check.same("but not what a number is made of", forge.name(9, 2), 0);
        Check.same("an IF by a number needs nothing", forge.name(6, 2), 0);
        Check.same("the phi has both names still", forge.phi(3, 0, 2), 8);
    }

    /** 1 is come to, and so is 3, but never the one from the other: 3 has v1 from 2 alone. */
    private static void promise12WaysNotTaken() {
        NameForge forge = Made.blocks(5);
        forge.put(0, Made.ASK, 0, 0, 0);
        forge.fork(0, 0, 1, 2);
        forge.put(1, Made.SET, 1, 4, 0);
        forge.fork(1, 2, 3, 4);
        forge.put(2, Made.SET, 1, 5, 0);
        forge.put(2, Made.ASK, 3, 0, 0);
        forge.go(2, 3);
        forge.put(3, Made.TELL, 0, 1, 0);
        forge.put(3, Made.TELL, 0, 3, 0);
        Check.same("build()", forge.build(), 12);
        value(forge, "v1 in 3", forge.phi(3, 0, -1), NUMBER, 5);
        value(forge, "v3 in 3", forge.phi(3, 1, -1), ANY, 0);
        Check.same("3 is come to", forge.look(3, 3), 1);
        Check.same("4 is come to", forge.look(4, 3), 1);
        Check.same("v3 from 1 is name 3", forge.phi(3, 1, 1), 3);
        Check.same("which is not needed", forge.name(3, 2), 0);
        Check.same("v3 from 2 is needed", forge.name(forge.phi(3, 1, 2), 2), 1);
    }

    /** What was built before leaves nothing behind. */
    private static void promise8BuiltAgain() {
        NameForge forge = Made.diamond(4, 5);
        forge.put(0, Made.TELL, 0, 2, 0);
        forge.go(0, 1);
        Check.same("build() without a meeting", forge.build(), 8);
        Check.same("no phi is left", forge.look(3, 2), 0);
        Check.same("no IF is left", forge.look(0, 5), -1);
        Check.same("2 is reached no more", forge.look(2, 0), 0);
        value(forge, "v1 in 1", 7, NUMBER, 4);
        forge.clear();
        forge.block();
        forge.put(0, Made.ASK, 0, 0, 0);
        forge.build();
        Check.same("name 2 is needed no more", forge.name(2, 2), 0);
        value(forge, "ASK", 6, ANY, 0);
    }

    /** The same blocks and ENDs as before, but nothing is set in them. */
    private static void promise8NoPhisOfBefore() {
        NameForge forge = Made.diamond(4, 5);
        forge.clear();
        for (int b = 0; b < 4; b++) {
            forge.block();
        }
        forge.fork(0, 0, 1, 2);
        forge.go(1, 3);
        forge.go(2, 3);
        Check.same("build()", forge.build(), 6);
        Check.same("phis of 3", forge.look(3, 2), 0);
        Check.fails("no phi of 3", NO_SUCH, () -> forge.phi(3, 0, -1));
        Check.fails("no instruction of 3", NO_SUCH, () -> forge.uses(3, 0, 1));
        Check.fails("no name 6", NO_SUCH, () -> forge.name(6, 0));
    }

    private static void promise8NoNumbersOfBefore() {
        NameForge forge = Made.blocks(3);
        forge.put(0, Made.SET, 0, 1, 0);
        forge.fork(0, 0, 1, 2);
        forge.put(1, Made.SET, 1, 9, 0);
        forge.put(2, Made.SET, 2, 8, 0);
        forge.build();
        value(forge, "come to", 7, NUMBER, 9);
        value(forge, "not come to", 8, NOTHING, 0);
        forge.fork(0, 0, 2, 1);
        forge.build();
        value(forge, "no more come to", 7, NOTHING, 0);
        value(forge, "now come to", 8, NUMBER, 8);
    }

    private static void promise8NoNeedsOfBefore() {
        NameForge forge = Made.blocks(1);
        for (int v = 0; v < 6; v++) {
            forge.put(0, Made.TELL, 0, v, 0);
        }
        forge.build();
        for (int v = 0; v < 6; v++) {
            Check.same("needed by a TELL", forge.name(v, 2), 1);
        }
        forge.clear();
        forge.block();
        forge.build();
        for (int v = 0; v < 6; v++) {
            Check.same("needed no more", forge.name(v, 2), 0);
        }
    }

    /** Name 8 was told before; now it is a COPY that nobody needs, and so is 7, of which it is made. */
    private static void promise8NoPartsOfBefore() {
        for (int first : new int[] {0, 2}) {
            NameForge forge = Made.blocks(1);
            for (int v = 0; v < 3; v++) {
                forge.put(0, Made.SET, v, 1, 0);
            }
            forge.put(0, Made.TELL, 0, first, 0);
            forge.put(0, Made.TELL, 0, 2 - first, 0);
            forge.build();
            Check.same("8 is told", forge.name(8, 2), 1);
            forge.clear();
            forge.block();
            forge.put(0, Made.ASK, 0, 0, 0);
            forge.put(0, Made.COPY, 1, 0, 0);
            forge.put(0, Made.COPY, 2, 1, 0);
            forge.build();
            for (int n = 0; n < 9; n++) {
                Check.same("name " + n + " is needed", forge.name(n, 2), n == 6 ? 1 : 0);
            }
        }
    }

    /** v0 stays 1 round the loop, but only for one who does not believe otherwise at first. */
    private static void promise12Loops() {
        NameForge forge = Made.blocks(5);
        forge.put(0, Made.SET, 0, 1, 0);
        forge.go(0, 1);
        forge.fork(1, 0, 2, 3);
        forge.put(2, Made.ASK, 1, 0, 0);
        forge.fork(2, 1, 1, 4);
        forge.put(3, Made.SET, 0, 0, 0);
        forge.go(3, 1);
        forge.put(4, Made.TELL, 0, 0, 0);
        Check.same("build()", forge.build(), 11);
        Check.same("v0 and v1 meet in 1", forge.look(1, 2), 2);
        value(forge, "v0 in the loop", forge.phi(1, 0, -1), NUMBER, 1);
        value(forge, "v1 in the loop", forge.phi(1, 1, -1), ANY, 0);
        Check.same("3 is never come to", forge.look(3, 3), 0);
        Check.same("4 is", forge.look(4, 3), 1);
    }

    private static void promise12Needed() {
        NameForge forge = Made.blocks(4);
        forge.put(0, Made.ASK, 0, 0, 0);
        forge.put(0, Made.ASK, 1, 0, 0);
        forge.put(0, Made.ADD, 2, 0, 1);
        forge.put(0, Made.COPY, 3, 0, 0);
        forge.put(0, Made.ADD, 4, 2, 5);
        forge.fork(0, 3, 1, 2);
        forge.put(1, Made.SET, 4, 9, 0);
        forge.go(1, 3);
        forge.put(2, Made.MULTIPLY, 1, 2, 2);
        forge.go(2, 3);
        forge.put(3, Made.TELL, 0, 4, 0);
        forge.build();
        // 6 7 ASK, 8 ADD, 9 the IF's, 10 told by way of 2, 11 told by way of 1, 12 and 13 no more
        // used, 14 the phi that is told; 5 is the y of 10.
        int[] due = {0, 0, 0, 0, 0, 1, 1, 1, 1, 1, 1, 1, 0, 0, 1};
        for (int n = 0; n < due.length; n++) {
            Check.same("name " + n + " is needed", forge.name(n, 2), due[n]);
        }
        NameForge first = Made.blocks(1);
        first.put(0, Made.TELL, 0, 3, 0);
        first.build();
        Check.same("a name of the first six may be needed", first.name(3, 2), 1);
        Check.same("the others are not", first.name(2, 2), 0);
    }

    private static void promise12WrongInputs() {
        NameForge forge = Made.blocks(1);
        Check.fails("not built comes first", STATE, () -> forge.name(-1, 9));
        forge.put(0, Made.SET, 0, 0, 0);
        forge.build();
        for (int n : new int[] {-1, 7, 126, 127, Integer.MIN_VALUE, Integer.MAX_VALUE}) {
            Check.fails("name " + n, NO_SUCH, () -> forge.name(n, 0));
        }
        for (int what : new int[] {-1, 4, Integer.MIN_VALUE, Integer.MAX_VALUE}) {
            Check.fails("name, what " + what, NO_SUCH, () -> forge.name(0, what));
        }
    }
}
