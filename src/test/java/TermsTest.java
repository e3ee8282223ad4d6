import java.math.BigInteger;
import java.util.NoSuchElementException;

/** The limits and boundary cases that stand under 'Terms', a test for each sentence that has one. */
public final class TermsTest {
    private static final Class<IllegalArgumentException> ARGUMENT = IllegalArgumentException.class;
    private static final Class<NoSuchElementException> NO_SUCH = NoSuchElementException.class;
    private static final int NOTHING = 0;
    private static final int NUMBER = 1;
    private static final int ANY = 2;

    public static void main(String[] args) {
        tenBlocksInARow();
        tenBlocksBackwards();
        tenBlocksSideBySide();
        sixVariablesAtFirstZero();
        ifOfVariablesAtFirst();
        sixInstructionsInEachBlock();
        setToAnyInt();
        copyOfAnyInt();
        arithmeticOfNumbersWraps();
        arithmeticOfAskedNumbersWraps();
        instructionReadsBeforeItSets();
        inputThatRunsOut();
        inputOfAnyInt();
        tellOfOneVariableTwice();
        ifOfAnyInt();
        bothWaysToOneBlock();
        bothWaysToOneBlockByAny();
        bothWaysToTheBlockItself();
        noEndLeadsToBlockZero();
        blockZeroHasNoPhi();
        blocksThatAreNotReached();
        reachedByOneThatIsNotComeTo();
        blockInItsOwnFrontier();
        phiWithoutAnInstruction();
        phisThatComeOneByOne();
        childrenByTheirNumbers();
        latestNameDownTheParents();
        valuesThatAreNothingYet();
        phiOfTwoNumbers();
        phiOfNameAtFirst();
        phiOfAnyAndNumber();
        phiOfWayThatIsNotTaken();
        waysThatLeadBackwards();
        loopThatCounts();
        valuesThatGrowTurnByTurn();
        anyTimesZeroIsAny();
        neededByIfThatIsNotComeTo();
        neededTellOfNumber();
        neededAlongWaysTaken();
        neededRoundALoop();
        Check.end();
    }

    private static void value(NameForge forge, String what, int name, int state, int number) {
        Check.same(what + ": value of " + name, forge.name(name, 0), state);
        Check.same(what + ": number of " + name, forge.name(name, 1), number);
    }

    private static void row(NameForge forge, int block, int... due) {
        for (int what = 0; what < due.length; what++) {
            Check.same("look(" + block + ", " + what + ")", forge.look(block, what), due[what]);
        }
    }

    private static void hears(NameForge forge, String what, int... due) {
        for (boolean plain : Made.BOTH) {
            String run = what + (plain ? " plain" : " become");
            forge.run(plain, 200);
            Check.same(run + ": told", forge.told(), due.length);
            for (int k = 0; k < due.length; k++) {
                Check.same(run + ": heard(" + k + ")", forge.heard(k), due[k]);
            }
        }
    }

    /** "BLOCKS 0, 1, .., at most 10" */
    private static void tenBlocksInARow() {
        NameForge forge = Made.blocks(10);
        for (int b = 0; b < 9; b++) {
            forge.go(b, b + 1);
        }
        forge.put(9, Made.TELL, 0, 0, 0);
        forge.build();
        for (int b = 0; b < 10; b++) {
            row(forge, b, 1, b - 1, 0, 1, b == 9 ? 1 : 0, -1);
        }
        for (boolean plain : Made.BOTH) {
            Check.same("nine of ten blocks", forge.run(plain, 9), 1);
            Check.same("the tenth has not told", forge.told(), 0);
            Check.same("ten of ten blocks", forge.run(plain, 10), 0);
            Check.same("the tenth has told", forge.told(), 1);
        }
    }

    /** Each is reached by one of a higher number: what is found must not hang on their order. */
    private static void tenBlocksBackwards() {
        NameForge forge = Made.blocks(10);
        forge.put(0, Made.SET, 0, 3, 0);
        forge.go(0, 9);
        for (int b = 9; b > 1; b--) {
            forge.put(b, Made.ADD, 0, 0, 0);
            forge.go(b, b - 1);
        }
        forge.put(1, Made.TELL, 0, 0, 0);
        Check.same("build()", forge.build(), 15);
        for (int b = 1; b < 10; b++) {
            row(forge, b, 1, b == 9 ? 0 : b + 1, 0, 1, 1, -1);
        }
        Check.same("name of 9", forge.uses(9, 0, 0), 7);
        Check.same("name of 2", forge.uses(2, 0, 0), 14);
        value(forge, "v0 in 1", forge.uses(1, 0, 1), NUMBER, 3 * 256);
        hears(forge, "ten backwards", 3 * 256);
    }

    /** A row of forks, all of whose ways meet in block 9: it has nine predecessors. */
    private static void tenBlocksSideBySide() {
        NameForge forge = Made.blocks(10);
        for (int b = 0; b < 9; b++) {
            forge.put(b, Made.ASK, 0, 0, 0);
            forge.fork(b, 0, b + 1, 9);
        }
        Check.same("build()", forge.build(), 16);
        Check.same("phis of 9", forge.look(9, 2), 1);
        Check.same("parent of 9", forge.look(9, 1), 0);
        for (int b = 0; b < 9; b++) {
            Check.same("phi of 9 for " + b, forge.phi(9, 0, b), 6 + b);
        }
        Check.same("its name is the last", forge.phi(9, 0, -1), 15);
        Check.fails("9 is no predecessor of 9", NO_SUCH, () -> forge.phi(9, 0, 9));
    }

    /** "VARIABLES 0 .. 5, ints, at first 0" and "names 0 .. 5: the number 0" */
    private static void sixVariablesAtFirstZero() {
        NameForge forge = Made.blocks(1);
        for (int v = 0; v < 6; v++) {
            forge.put(0, Made.TELL, 0, v, 0);
        }
        Check.same("build()", forge.build(), 6);
        for (int v = 0; v < 6; v++) {
            Check.same("a variable at first", forge.uses(0, v, 1), v);
            value(forge, "a variable at first", v, NUMBER, 0);
            Check.same("it is told", forge.name(v, 2), 1);
            Check.same("it has no block", forge.name(v, 3), -1);
        }
        hears(forge, "variables at first", 0, 0, 0, 0, 0, 0);
    }

    private static void ifOfVariablesAtFirst() {
        for (int v = 0; v < 6; v++) {
            NameForge forge = Made.blocks(3);
            forge.fork(0, v, 1, 2);
            forge.put(2, Made.TELL, 0, v, 0);
            forge.build();
            Check.same("the IF's name", forge.look(0, 5), v);
            Check.same("t is not come to", forge.look(1, 3), 0);
            Check.same("u is come to", forge.look(2, 3), 1);
            hears(forge, "IF of a variable at first", 0);
        }
    }

    /** "A block has at most 6 INSTRUCTIONS": each block its own six, and all of them are done. */
    private static void sixInstructionsInEachBlock() {
        NameForge forge = Made.blocks(10);
        for (int b = 0; b < 10; b++) {
            for (int i = 1; i < 6; i++) {
                Check.same("put", forge.put(b, Made.SET, i, 10 * b + i, 0), i);
            }
            Check.same("the sixth", forge.put(b, Made.TELL, 0, 5, 0), 6);
            int full = b;
            Check.fails("a seventh", IllegalStateException.class, () -> forge.put(full, Made.TELL, 0, 5, 0));
            if (b > 0) {
                forge.go(b - 1, b);
            }
        }
        Check.same("build()", forge.build(), 6 + 50);
        hears(forge, "the sixth of each", 5, 15, 25, 35, 45, 55, 65, 75, 85, 95);
        forge.run(true, 10);
        Check.same("sixty are done", forge.spent(1), 60);
        forge.run(false, 10);
        Check.same("ten are left", forge.spent(1), 10);
    }

    /** "SET d x: d becomes the number x": x may be any int. */
    private static void setToAnyInt() {
        for (int x : Edges.INTS) {
            for (int d = 0; d < 6; d++) {
                NameForge forge = Made.blocks(1);
                forge.put(0, Made.SET, d, x, 0);
                forge.put(0, Made.TELL, 0, d, 0);
                forge.build();
                value(forge, "SET " + d + " " + x, 6, NUMBER, x);
                hears(forge, "SET " + d + " " + x, x);
            }
        }
    }

    private static void copyOfAnyInt() {
        for (int x : Edges.INTS) {
            NameForge forge = Made.blocks(1);
            forge.put(0, Made.SET, 5, x, 0);
            forge.put(0, Made.COPY, 0, 5, 0);
            forge.put(0, Made.SET, 5, 3, 0);
            forge.put(0, Made.TELL, 0, 0, 0);
            forge.build();
            value(forge, "COPY of " + x, 7, NUMBER, x);
            hears(forge, "COPY of " + x, x);
        }
    }

    /** ADD, SUBTRACT, MULTIPLY and LESS of v0 and v1 into v2 .. v5, which are told. */
    private static NameForge fourKinds(int firstKind, int a, int b) {
        NameForge forge = Made.blocks(2);
        forge.put(0, firstKind, 0, a, 0);
        forge.put(0, firstKind, 1, b, 0);
        for (int kind = Made.ADD; kind <= Made.LESS; kind++) {
            forge.put(0, kind, kind, 0, 1);
            forge.put(1, Made.TELL, 0, kind, 0);
        }
        forge.go(0, 1);
        forge.build();
        return forge;
    }

    private static int[] dueOf(int a, int b) {
        BigInteger x = BigInteger.valueOf(a);
        BigInteger y = BigInteger.valueOf(b);
        return new int[] {x.add(y).intValue(), x.subtract(y).intValue(), x.multiply(y).intValue(),
            x.compareTo(y) < 0 ? 1 : 0};
    }

    /** "(ints wrap)", and "1 if x is less than y, otherwise 0": of names that are numbers. */
    private static void arithmeticOfNumbersWraps() {
        for (int a : Edges.INTS) {
            for (int b : Edges.INTS) {
                NameForge forge = fourKinds(Made.SET, a, b);
                int[] due = dueOf(a, b);
                for (int k = 0; k < 4; k++) {
                    value(forge, "kind " + (2 + k) + " of " + a + " and " + b, 8 + k, NUMBER, due[k]);
                }
                hears(forge, a + " and " + b, due);
            }
        }
    }

    /** The same when nothing is known before it runs. */
    private static void arithmeticOfAskedNumbersWraps() {
        for (int a : Edges.INTS) {
            for (int b : Edges.INTS) {
                NameForge forge = fourKinds(Made.ASK, 0, 0);
                forge.give(a);
                forge.give(b);
                for (int k = 0; k < 4; k++) {
                    value(forge, "of asked ones", 8 + k, ANY, 0);
                }
                hears(forge, "asked " + a + " and " + b, dueOf(a, b));
            }
        }
    }

    /** "use the latest name of the variable .., in its block those before it" */
    private static void instructionReadsBeforeItSets() {
        NameForge forge = Made.blocks(1);
        forge.put(0, Made.ASK, 0, 0, 0);
        forge.put(0, Made.COPY, 0, 0, 0);
        forge.put(0, Made.ADD, 0, 0, 0);
        forge.put(0, Made.SUBTRACT, 0, 1, 0);
        forge.put(0, Made.TELL, 0, 0, 0);
        forge.build();
        int[][] due = {{6, -1, -1}, {7, 6, -1}, {8, 7, 7}, {9, 1, 8}, {-1, 9, -1}};
        for (int i = 0; i < due.length; i++) {
            for (int what = 0; what < 3; what++) {
                Check.same("uses(0, " + i + ", " + what + ")", forge.uses(0, i, what), due[i][what]);
            }
        }
        forge.give(21);
        hears(forge, "0 less twice 21", -42);
    }

    /** "the next number of the INPUT, 0 when there is none any more" */
    private static void inputThatRunsOut() {
        for (int inputs : new int[] {0, 1, 2, 15, 16}) {
            NameForge forge = Made.echo();
            for (int k = 0; k < inputs; k++) {
                forge.give(70 + k);
            }
            for (boolean plain : Made.BOTH) {
                forge.run(plain, 20);
                for (int k = 0; k < 19; k++) {
                    Check.same(inputs + " numbers: heard(" + k + ")", forge.heard(k), k < inputs ? 70 + k : 0);
                }
            }
        }
    }

    private static void inputOfAnyInt() {
        NameForge forge = Made.echo();
        for (int v : Edges.INTS) {
            Check.holds("give(" + v + ")", forge.give(v));
        }
        for (boolean plain : Made.BOTH) {
            forge.run(plain, 1 + Edges.INTS.length);
            for (int k = 0; k < Edges.INTS.length; k++) {
                Check.same("an input of any int", forge.heard(k), Edges.INTS[k]);
            }
        }
    }

    private static void tellOfOneVariableTwice() {
        NameForge forge = Made.blocks(1);
        forge.put(0, Made.SET, 3, 8, 0);
        forge.put(0, Made.TELL, 0, 3, 0);
        forge.put(0, Made.TELL, 0, 3, 0);
        Check.same("a TELL makes no name", forge.build(), 7);
        hears(forge, "told twice", 8, 8);
    }

    /** "to t if variable x is not 0, otherwise to u" */
    private static void ifOfAnyInt() {
        for (int x : Edges.INTS) {
            NameForge known = forkOn(Made.SET, x);
            Check.same("t is come to by " + x, known.look(1, 3), x != 0 ? 1 : 0);
            Check.same("u is come to by " + x, known.look(2, 3), x == 0 ? 1 : 0);
            hears(known, "IF of the number " + x, x != 0 ? 111 : 222);
            NameForge asked = forkOn(Made.ASK, 0);
            asked.give(x);
            Check.same("t may be come to", asked.look(1, 3), 1);
            Check.same("u may be come to", asked.look(2, 3), 1);
            hears(asked, "IF of " + x + " that was asked", x != 0 ? 111 : 222);
        }
    }

    /** t tells 111, u tells 222. */
    private static NameForge forkOn(int kind, int x) {
        NameForge forge = Made.blocks(3);
        forge.put(0, kind, 4, x, 0);
        forge.fork(0, 4, 1, 2);
        for (int b = 1; b < 3; b++) {
            forge.put(b, Made.SET, 0, 111 * b, 0);
            forge.put(b, Made.TELL, 0, 0, 0);
        }
        forge.build();
        return forge;
    }

    /** "(t and u may be one block)": an IF by a number, whichever way it tells. */
    private static void bothWaysToOneBlock() {
        for (int x : Edges.INTS) {
            NameForge forge = Made.blocks(2);
            forge.put(0, Made.SET, 0, x, 0);
            forge.fork(0, 0, 1, 1);
            forge.put(1, Made.TELL, 0, 0, 0);
            Check.same("build()", forge.build(), 7);
            row(forge, 0, 1, -1, 0, 1, 1, 6);
            row(forge, 1, 1, 0, 0, 1, 1, -1);
            Check.fails("one predecessor makes no phi", NO_SUCH, () -> forge.phi(1, 0, 0));
            hears(forge, "both ways to one block", x);
            Check.same("two blocks were run", forge.spent(0), 2);
        }
    }

    /** The IF's name is needed by its being ANY, though both ways are one. */
    private static void bothWaysToOneBlockByAny() {
        NameForge forge = Made.blocks(2);
        forge.put(0, Made.ASK, 0, 0, 0);
        forge.put(0, Made.COPY, 1, 0, 0);
        forge.put(0, Made.COPY, 2, 0, 0);
        forge.fork(0, 1, 1, 1);
        forge.put(1, Made.TELL, 0, 3, 0);
        forge.build();
        row(forge, 1, 1, 0, 0, 1, 1, -1);
        Check.same("the IF's name is needed", forge.name(7, 2), 1);
        Check.same("the other COPY is not", forge.name(8, 2), 0);
        hears(forge, "both ways by ANY", 0);
        Check.same("done: ASK, one COPY, TELL", forge.spent(1), 3);
    }

    /** One way more does not make one predecessor more: 1 has 0 and itself. */
    private static void bothWaysToTheBlockItself() {
        NameForge forge = Made.blocks(2);
        forge.go(0, 1);
        forge.put(1, Made.ADD, 0, 0, 0);
        forge.fork(1, 0, 1, 1);
        Check.same("build()", forge.build(), 8);
        row(forge, 1, 1, 0, 1, 1, 1, 7);
        Check.same("phi for 0", forge.phi(1, 0, 0), 0);
        Check.same("phi for 1", forge.phi(1, 0, 1), 7);
        value(forge, "0 and 0 again", 6, NUMBER, 0);
        for (boolean plain : Made.BOTH) {
            Check.same("it never stops", forge.run(plain, 200), 1);
            Check.same("and turns", forge.spent(0), 200);
        }
    }

    /** "No END leads to block 0": not from itself, not from another, by neither way. */
    private static void noEndLeadsToBlockZero() {
        for (int blocks : new int[] {1, 2, 10}) {
            for (int b = 0; b < blocks; b++) {
                NameForge forge = Made.blocks(blocks);
                int from = b;
                int last = blocks - 1;
                Check.fails("go(" + b + ", 0)", ARGUMENT, () -> forge.go(from, 0));
                Check.fails("fork(" + b + ", 0, 0, 0)", ARGUMENT, () -> forge.fork(from, 0, 0, 0));
                Check.fails("fork(" + b + ", 0, 0, u)", ARGUMENT, () -> forge.fork(from, 0, 0, last));
                Check.fails("fork(" + b + ", 0, t, 0)", ARGUMENT, () -> forge.fork(from, 0, last, 0));
                forge.build();
                Check.same("it still stops", forge.run(true, 1), 0);
            }
        }
    }

    /** All that can lead anywhere leads back as far as it may, and all is set everywhere. */
    private static void blockZeroHasNoPhi() {
        NameForge forge = Made.blocks(10);
        for (int b = 0; b < 10; b++) {
            for (int v = 0; v < 6; v++) {
                forge.put(b, Made.ASK, v, 0, 0);
            }
            forge.fork(b, 0, 1, Math.min(b + 1, 9));
        }
        forge.build();
        row(forge, 0, 1, -1, 0, 1, 6, 6);
        Check.same("block 1 has them all", forge.look(1, 2), 6);
        Check.fails("block 0 has none", NO_SUCH, () -> forge.phi(0, 0, -1));
    }

    /** "(All below is about these; predecessors are reached ones.)" 2 and 3 lead to one another. */
    private static void blocksThatAreNotReached() {
        NameForge forge = Made.blocks(4);
        forge.put(0, Made.SET, 0, 1, 0);
        forge.go(0, 1);
        forge.put(1, Made.TELL, 0, 0, 0);
        forge.put(2, Made.SET, 0, 7, 0);
        forge.put(2, Made.TELL, 0, 5, 0);
        forge.fork(2, 0, 1, 3);
        forge.go(3, 2);
        Check.same("build()", forge.build(), 7);
        row(forge, 1, 1, 0, 0, 1, 1, -1);
        row(forge, 2, 0, -1, 0, 0, 2, -1);
        row(forge, 3, 0, -1, 0, 0, 0, -1);
        Check.same("v0 in 1", forge.uses(1, 0, 1), 6);
        Check.same("what 2 tells is not needed", forge.name(5, 2), 0);
        Check.fails("no names in 2", NO_SUCH, () -> forge.uses(2, 0, 0));
        Check.fails("no names in 2", NO_SUCH, () -> forge.uses(2, 1, 1));
        hears(forge, "without 2", 1);
        forge.go(0, 2);
        Check.same("build() when 2 is reached", forge.build(), 9);
        row(forge, 1, 1, 2, 0, 1, 1, -1);
        row(forge, 2, 1, 0, 1, 1, 2, 8);
        row(forge, 3, 1, 2, 0, 0, 0, -1);
        Check.same("v0 in 1", forge.uses(1, 0, 1), 8);
        Check.same("phi of 2 for 3", forge.phi(2, 0, 3), 8);
        hears(forge, "by way of 2", 0, 7);
    }

    /** Reached is what an END may lead to, known or not: it has a parent, phis and names. */
    private static void reachedByOneThatIsNotComeTo() {
        NameForge forge = Made.blocks(4);
        forge.fork(0, 0, 2, 1);
        forge.put(2, Made.SET, 1, 4, 0);
        forge.fork(2, 1, 3, 1);
        forge.put(1, Made.TELL, 0, 1, 0);
        forge.put(3, Made.SET, 2, 5, 0);
        Check.same("build()", forge.build(), 9);
        row(forge, 1, 1, 0, 1, 1, 1, -1);
        row(forge, 2, 1, 0, 0, 0, 1, 7);
        row(forge, 3, 1, 2, 0, 0, 1, -1);
        Check.same("v1 in 1 from 0", forge.phi(1, 0, 0), 1);
        Check.same("v1 in 1 from 2", forge.phi(1, 0, 2), 7);
        value(forge, "v1 in 1", 6, NUMBER, 0);
    }

    /** "or that are b": block 2 leads to itself and has a phi of what it sets; 3 and 4 have none. */
    private static void blockInItsOwnFrontier() {
        NameForge forge = Made.blocks(5);
        forge.go(0, 1);
        forge.go(1, 2);
        forge.put(2, Made.ASK, 3, 0, 0);
        forge.fork(2, 3, 2, 3);
        forge.put(3, Made.ASK, 4, 0, 0);
        forge.go(3, 4);
        Check.same("build()", forge.build(), 9);
        int[] phis = {0, 0, 1, 0, 0};
        for (int b = 0; b < phis.length; b++) {
            Check.same("phis of " + b, forge.look(b, 2), phis[b]);
        }
        Check.same("its variable", forge.phi(2, 0, -2), 3);
        Check.same("from 1", forge.phi(2, 0, 1), 3);
        Check.same("from 2", forge.phi(2, 0, 2), 7);
    }

    /** "or has a PHI for it .. (and so on, until nothing comes any more)" */
    private static void phiWithoutAnInstruction() {
        NameForge forge = Made.blocks(6);
        forge.fork(0, 0, 1, 5);
        forge.fork(1, 0, 2, 3);
        forge.put(2, Made.SET, 5, 1, 0);
        forge.go(2, 4);
        forge.go(3, 4);
        forge.go(4, 5);
        Check.same("build()", forge.build(), 9);
        Check.same("4 has one by the SET in 2", forge.phi(4, 0, -2), 5);
        Check.same("5 has one by the phi in 4", forge.phi(5, 0, -2), 5);
        Check.same("from 3", forge.phi(4, 0, 3), 5);
        Check.same("from 4", forge.phi(5, 0, 4), forge.phi(4, 0, -1));
        Check.same("from 0", forge.phi(5, 0, 0), 5);
    }

    /** Each phi makes the next one, in a block of a lower number: 7 sets v5, which meets in 5, 3, 1. */
    private static void phisThatComeOneByOne() {
        for (int x : new int[] {0, 1}) {
            NameForge forge = Made.blocks(10);
            forge.put(0, Made.ASK, 0, 0, 0);
            forge.fork(0, 0, 8, 2);
            forge.fork(8, 0, 9, 4);
            forge.fork(9, 0, 7, 6);
            forge.put(7, Made.SET, 5, x, 0);
            int[][] goes = {{7, 5}, {6, 5}, {5, 3}, {4, 3}, {3, 1}, {2, 1}};
            for (int[] go : goes) {
                forge.go(go[0], go[1]);
            }
            forge.put(1, Made.TELL, 0, 5, 0);
            Check.same("build()", forge.build(), 11);
            int[][] due = {{1, 7, 2, 5}, {1, 7, 3, 8}, {3, 8, 4, 5}, {3, 8, 5, 9}, {5, 9, 6, 5}, {5, 9, 7, 10}};
            for (int[] d : due) {
                Check.same("phis of " + d[0], forge.look(d[0], 2), 1);
                Check.same("phi of " + d[0], forge.phi(d[0], 0, -1), d[1]);
                Check.same("phi of " + d[0] + " for " + d[2], forge.phi(d[0], 0, d[2]), d[3]);
            }
            for (int n = 7; n < 10; n++) {
                value(forge, "0 meets " + x, n, x == 0 ? NUMBER : ANY, 0);
            }
            Check.same("the SET is made use of", forge.name(10, 2), x);
            hears(forge, "by way of 2", 0);
            forge.give(1);
            hears(forge, "by way of 7", x);
        }
    }

    /** "each one before those whose parent it is (with all of theirs), these by their numbers" */
    private static void childrenByTheirNumbers() {
        NameForge forge = Made.blocks(7);
        int[][] ends = {{5, 2}, {4, 4}, {6, 1}, {3, 3}, {4, 4}, {3, 3}, {6, 6}};
        for (int b = 0; b < 7; b++) {
            forge.put(b, Made.SET, 0, b, 0);
            forge.fork(b, 1, ends[b][0], ends[b][1]);
        }
        // 0 is the parent of 2 and 5, 2 of 1 and 6, 1 of 4, 5 of 3; 3, 4 and 6 lead to themselves.
        forge.build();
        int[] due = {0, 2, 1, 4, 4, 6, 6, 5, 3, 3};
        for (int k = 0; k < due.length; k++) {
            Check.same("block of name " + (6 + k), forge.name(6 + k, 3), due[k]);
        }
        Check.fails("no more names", NO_SUCH, () -> forge.name(16, 3));
    }

    /** 3 is run behind 1 or 2, but its parent is 0: what these set without a phi is not seen there. */
    private static void latestNameDownTheParents() {
        NameForge forge = Made.diamond(4, 5);
        Check.same("v1 in 3 is its phi", forge.uses(3, 0, 1), 9);
        forge.put(3, Made.TELL, 0, 0, 0);
        forge.put(3, Made.TELL, 0, 2, 0);
        forge.fork(3, 0, 1, 2);
        forge.build();
        Check.same("v0 in 3 is that of 0", forge.uses(3, 1, 1), 6);
        Check.same("v2 in 3 is that at first", forge.uses(3, 2, 1), 2);
        Check.same("v0 in the IF of 3", forge.look(3, 5), 6);
    }

    /** 2 .. 5 are reached but never come to, so that all their names are nothing yet. */
    private static void valuesThatAreNothingYet() {
        NameForge forge = Made.blocks(6);
        forge.put(0, Made.ASK, 0, 0, 0);
        forge.put(0, Made.SET, 2, 1, 0);
        forge.fork(0, 2, 1, 2);
        forge.put(1, Made.TELL, 0, 3, 0);
        forge.put(2, Made.SET, 3, 9, 0);
        forge.put(2, Made.COPY, 4, 0, 0);
        forge.put(2, Made.ADD, 5, 0, 0);
        forge.put(2, Made.ASK, 3, 0, 0);
        forge.put(2, Made.TELL, 0, 2, 0);
        forge.fork(2, 0, 3, 4);
        forge.put(3, Made.SET, 4, 2, 0);
        forge.go(3, 5);
        forge.go(4, 5);
        forge.put(5, Made.TELL, 0, 4, 0);
        Check.same("build()", forge.build(), 14);
        for (int b = 2; b < 6; b++) {
            Check.same("reached", forge.look(b, 0), 1);
            Check.same("not come to", forge.look(b, 3), 0);
        }
        for (int n = 8; n < 14; n++) {
            value(forge, "nothing yet", n, NOTHING, 0);
            Check.same("nor needed", forge.name(n, 2), 0);
        }
        Check.same("the last is a phi", forge.phi(5, 0, -1), 13);
        Check.same("2 has an IF all the same", forge.look(2, 5), 6);
        Check.same("told in 1", forge.name(3, 2), 1);
        Check.same("told in 2 alone", forge.name(7, 2), 0);
        hears(forge, "1 alone", 0);
        Check.same("done: ASK, TELL", forge.spent(1), 2);
    }

    /** "ANY if .. two are different numbers; otherwise that number" */
    private static void phiOfTwoNumbers() {
        for (int a : Edges.INTS) {
            for (int b : Edges.INTS) {
                NameForge forge = Made.diamond(a, b);
                value(forge, a + " meets " + b, 9, a == b ? NUMBER : ANY, a == b ? a : 0);
                hears(forge, "by the second way", b);
                forge.give(1);
                hears(forge, "by the first way", a);
            }
        }
    }

    private static void phiOfNameAtFirst() {
        for (int x : Edges.INTS) {
            NameForge forge = Made.blocks(3);
            forge.put(0, Made.ASK, 0, 0, 0);
            forge.fork(0, 0, 1, 2);
            forge.put(1, Made.SET, 5, x, 0);
            forge.go(1, 2);
            forge.put(2, Made.TELL, 0, 5, 0);
            forge.build();
            Check.same("v5 at first", forge.phi(2, 0, 0), 5);
            value(forge, "0 at first meets " + x, 8, x == 0 ? NUMBER : ANY, 0);
            Check.same("v5 at first is made use of", forge.name(5, 2), x == 0 ? 0 : 1);
            hears(forge, "at first", 0);
            forge.give(-1);
            hears(forge, "set", x);
        }
    }

    private static void phiOfAnyAndNumber() {
        NameForge forge = Made.blocks(4);
        forge.put(0, Made.ASK, 0, 0, 0);
        forge.fork(0, 0, 1, 2);
        forge.put(1, Made.ASK, 1, 0, 0);
        forge.go(1, 3);
        forge.put(2, Made.SET, 1, 4, 0);
        forge.go(2, 3);
        forge.put(3, Made.TELL, 0, 1, 0);
        forge.build();
        value(forge, "ANY meets a number", 9, ANY, 0);
        hears(forge, "the number", 4);
        forge.give(1);
        forge.give(77);
        hears(forge, "what was asked", 77);
    }

    /** Both blocks before 3 are come to; that 1 may lead there is not enough, its way is not taken. */
    private static void phiOfWayThatIsNotTaken() {
        for (int x : Edges.INTS) {
            NameForge forge = Made.blocks(5);
            forge.put(0, Made.ASK, 0, 0, 0);
            forge.fork(0, 0, 1, 2);
            forge.put(1, Made.SET, 1, 4, 0);
            forge.put(1, Made.SET, 2, x, 0);
            forge.fork(1, 2, 4, 3);
            forge.put(2, Made.SET, 1, 5, 0);
            forge.go(2, 3);
            forge.put(3, Made.TELL, 0, 1, 0);
            forge.build();
            int v1 = forge.phi(3, 0, -1);
            value(forge, "v1 when v2 in 1 is " + x, v1, x == 0 ? ANY : NUMBER, x == 0 ? 0 : 5);
            Check.same("4 is come to", forge.look(4, 3), x == 0 ? 0 : 1);
        }
    }

    /** 1 is come to by 2 alone, and 3 by 1: no name is made on the way that could tell of it. */
    private static void waysThatLeadBackwards() {
        NameForge forge = Made.blocks(4);
        forge.fork(0, 0, 1, 2);
        forge.go(2, 1);
        forge.go(1, 3);
        Check.same("build()", forge.build(), 6);
        for (int b = 0; b < 4; b++) {
            Check.same(b + " is come to", forge.look(b, 3), 1);
        }
        Check.same("run", forge.run(false, 4), 0);
    }

    /** v0 counts, and each turn hands it on by one: that v4 is ANY is found last, and so block 2. */
    private static void valuesThatGrowTurnByTurn() {
        NameForge forge = Made.blocks(3);
        forge.put(0, Made.SET, 5, 1, 0);
        forge.go(0, 1);
        for (int v = 4; v > 0; v--) {
            forge.put(1, Made.COPY, v, v - 1, 0);
        }
        forge.put(1, Made.ADD, 0, 0, 5);
        forge.fork(1, 4, 2, 1);
        forge.put(2, Made.TELL, 0, 4, 0);
        Check.same("build()", forge.build(), 17);
        for (int n = 7; n < 17; n++) {
            value(forge, "in the loop", n, ANY, 0);
        }
        Check.same("2 is come to", forge.look(2, 3), 1);
        hears(forge, "after five turns", 1);
        Check.same("blocks", forge.spent(0), 7);
        int[] due = {1, 1, 1, 1, 0, 0, 1, 1, 1, 1, 1, 0, 1, 1, 1, 1, 1};
        for (int n = 0; n < due.length; n++) {
            Check.same("name " + n + " is needed", forge.name(n, 2), due[n]);
        }
    }

    /** Values only ever grow: 0, then 0 or 1, which is ANY, and so the way out is taken. */
    private static void loopThatCounts() {
        NameForge forge = Made.blocks(4);
        forge.put(0, Made.SET, 1, 1, 0);
        forge.go(0, 1);
        forge.put(1, Made.LESS, 2, 0, 1);
        forge.fork(1, 2, 2, 3);
        forge.put(2, Made.ADD, 0, 0, 1);
        forge.go(2, 1);
        forge.put(3, Made.TELL, 0, 0, 0);
        Check.same("build()", forge.build(), 11);
        value(forge, "v0 in the loop", forge.phi(1, 0, -1), ANY, 0);
        value(forge, "v1 has no phi", forge.uses(1, 0, 2), NUMBER, 1);
        Check.same("3 is come to", forge.look(3, 3), 1);
        hears(forge, "one turn", 1);
        Check.same("blocks", forge.spent(0), 5);
    }

    /** "ANY if one of both is ANY": also where sums tell better. */
    private static void anyTimesZeroIsAny() {
        NameForge forge = Made.blocks(1);
        forge.put(0, Made.ASK, 0, 0, 0);
        forge.put(0, Made.MULTIPLY, 1, 0, 5);
        forge.put(0, Made.MULTIPLY, 2, 5, 0);
        forge.put(0, Made.SUBTRACT, 3, 0, 0);
        forge.put(0, Made.LESS, 4, 0, 0);
        forge.put(0, Made.TELL, 0, 3, 0);
        forge.build();
        for (int n = 7; n < 11; n++) {
            value(forge, "of ANY", n, ANY, 0);
        }
        forge.give(6);
        hears(forge, "it less itself", 0);
        Check.same("done: ASK, SUBTRACT, TELL", forge.spent(1), 3);
    }

    /** "in blocks that are come to": the IF and the TELL in 2 need nothing. */
    private static void neededByIfThatIsNotComeTo() {
        for (int x : new int[] {0, 1}) {
            NameForge forge = Made.blocks(3);
            forge.put(0, Made.ASK, 0, 0, 0);
            forge.put(0, Made.COPY, 1, 0, 0);
            forge.put(0, Made.COPY, 2, 0, 0);
            forge.put(0, Made.SET, 3, x, 0);
            forge.fork(0, 3, 1, 2);
            forge.put(2, Made.TELL, 0, 2, 0);
            forge.fork(2, 1, 1, 2);
            forge.build();
            Check.same("2 is come to", forge.look(2, 3), 1 - x);
            Check.same("the name of its IF", forge.name(7, 2), 1 - x);
            Check.same("what it tells", forge.name(8, 2), 1 - x);
            Check.same("an ASK always", forge.name(6, 2), 1);
            Check.same("an IF by a number needs none", forge.name(9, 2), 0);
        }
    }

    /** "what a needed name (not a number) is made of" */
    private static void neededTellOfNumber() {
        NameForge forge = Made.blocks(1);
        forge.put(0, Made.SET, 0, 2, 0);
        forge.put(0, Made.ADD, 1, 0, 0);
        forge.put(0, Made.TELL, 0, 1, 0);
        forge.build();
        Check.same("a number that is told", forge.name(7, 2), 1);
        Check.same("what it is made of", forge.name(6, 2), 0);
        hears(forge, "a number", 4);
        Check.same("done: TELL", forge.spent(1), 1);
    }

    /** "or of its phi along ways that are taken": v1 of 1 is not, for 1 goes to 4. */
    private static void neededAlongWaysTaken() {
        NameForge forge = Made.blocks(5);
        forge.put(0, Made.ASK, 0, 0, 0);
        forge.fork(0, 0, 1, 2);
        forge.put(1, Made.COPY, 1, 0, 0);
        forge.put(1, Made.SET, 2, 1, 0);
        forge.fork(1, 2, 4, 3);
        forge.put(2, Made.COPY, 1, 0, 0);
        forge.go(2, 3);
        forge.put(3, Made.TELL, 0, 1, 0);
        forge.build();
        Check.same("v1 of 1", forge.name(forge.phi(3, 0, 1), 2), 0);
        Check.same("v1 of 2", forge.name(forge.phi(3, 0, 2), 2), 1);
        forge.give(1);
        forge.run(false, 9);
        Check.same("done by way of 1: ASK", forge.spent(1), 1);
    }

    /** What is told is made of the phi and of a number, and the phi of what is told. */
    private static void neededRoundALoop() {
        NameForge forge = Made.counter();
        int[] due = {1, 0, 0, 0, 0, 0, 1, 1, 1};
        for (int n = 0; n < due.length; n++) {
            Check.same("name " + n + " is needed", forge.name(n, 2), due[n]);
        }
    }
}
