import java.util.NoSuchElementException;

/** Promises 13 to 18: the input, runs, and what is known of the latest one. */
public final class RunTest {
    private static final Class<IllegalArgumentException> ARGUMENT = IllegalArgumentException.class;
    private static final Class<IllegalStateException> STATE = IllegalStateException.class;
    private static final Class<NoSuchElementException> NO_SUCH = NoSuchElementException.class;

    public static void main(String[] args) {
        promise13Give();
        promise14Take();
        promise15Steps();
        promise15TwoHundredBlocks();
        promise15PhisAllAtOnce();
        promise15LeavesOut();
        promise15FollowsNumbers();
        promise15BeginsAnew();
        promise15WrongInputs();
        promise16And17KeptAndLost();
        promise16Most();
        promise18Spent();
        Check.end();
    }

    private static void promise13Give() {
        NameForge forge = Made.echo();
        for (int v = 0; v < 16; v++) {
            Check.holds("give()", forge.give(v == 0 ? Integer.MIN_VALUE : 100 + v));
        }
        Check.holds("a seventeenth is refused", !forge.give(5));
        for (boolean plain : Made.BOTH) {
            forge.run(plain, 19);
            Check.same("told", forge.told(), 18);
            Check.same("heard(0)", forge.heard(0), Integer.MIN_VALUE);
            for (int k = 1; k < 16; k++) {
                Check.same("heard(" + k + ")", forge.heard(k), 100 + k);
            }
            Check.same("none any more", forge.heard(16), 0);
            Check.same("none any more", forge.heard(17), 0);
        }
        Check.holds("a run takes nothing away", !forge.give(5));
    }

    private static void promise14Take() {
        NameForge forge = Made.echo();
        forge.take();
        for (int v = 0; v < 16; v++) {
            forge.give(v + 1);
        }
        forge.take();
        forge.run(true, 2);
        Check.same("empty", forge.heard(0), 0);
        Check.same("none asked for", forge.spent(2), 0);
        for (int v = 0; v < 16; v++) {
            Check.holds("give() after take()", forge.give(v + 50));
        }
        Check.holds("it is full again", !forge.give(0));
        forge.run(true, 3);
        Check.same("heard(0)", forge.heard(0), 50);
        Check.same("heard(1)", forge.heard(1), 51);
    }

    private static void promise15Steps() {
        NameForge forge = Made.diamond(4, 5);
        for (boolean plain : Made.BOTH) {
            for (int steps = 0; steps < 3; steps++) {
                Check.same("run with " + steps, forge.run(plain, steps), 1);
                Check.same("blocks", forge.spent(0), steps);
                Check.same("told", forge.told(), 0);
            }
            Check.same("run with 3", forge.run(plain, 3), 0);
            Check.same("blocks", forge.spent(0), 3);
            Check.same("told", forge.told(), 1);
            Check.same("run with 200", forge.run(plain, 200), 0);
            Check.same("blocks", forge.spent(0), 3);
            NameForge loop = Made.swap();
            Check.same("a loop", loop.run(plain, 200), 1);
            Check.same("blocks of a loop", loop.spent(0), 200);
            NameForge one = Made.built(1);
            Check.same("one block, none allowed", one.run(plain, 0), 1);
            Check.same("one block", one.run(plain, 1), 0);
        }
    }

    /** "1 when a block more would have been one too many": a program of 200 blocks stops, of 201 not. */
    private static void promise15TwoHundredBlocks() {
        for (int turns : new int[] {1, 197, 198, 199}) {
            NameForge forge = Made.blocks(3);
            forge.put(0, Made.SET, 1, turns, 0);
            forge.put(0, Made.SET, 2, 1, 0);
            forge.go(0, 1);
            forge.put(1, Made.SUBTRACT, 1, 1, 2);
            forge.fork(1, 1, 1, 2);
            forge.put(2, Made.TELL, 0, 2, 0);
            forge.build();
            int blocks = turns + 2;
            for (boolean plain : Made.BOTH) {
                Check.same(blocks + " blocks, 200 steps", forge.run(plain, 200), blocks <= 200 ? 0 : 1);
                Check.same(blocks + " blocks: spent", forge.spent(0), Math.min(blocks, 200));
                Check.same(blocks + " blocks: told", forge.told(), blocks <= 200 ? 1 : 0);
                Check.same("one step less than blocks", forge.run(plain, blocks - 1), 1);
                Check.same("one step less: spent", forge.spent(0), blocks - 1);
            }
        }
    }

    private static void promise15PhisAllAtOnce() {
        NameForge forge = Made.swap();
        forge.give(3);
        forge.give(4);
        for (boolean plain : Made.BOTH) {
            forge.run(plain, 4);
            int[] due = {3, 4, 4, 3, 3, 4};
            Check.same("told", forge.told(), due.length);
            for (int k = 0; k < due.length; k++) {
                Check.same("heard(" + k + ")", forge.heard(k), due[k]);
            }
        }
        Check.same("every COPY is needed", forge.spent(1), 2 + 3 * 5);
    }

    private static void promise15LeavesOut() {
        NameForge forge = Made.blocks(1);
        forge.put(0, Made.SET, 0, 5, 0);
        forge.put(0, Made.ASK, 1, 0, 0);
        forge.put(0, Made.ADD, 2, 0, 1);
        forge.put(0, Made.MULTIPLY, 3, 2, 2);
        forge.put(0, Made.ADD, 4, 0, 0);
        forge.put(0, Made.TELL, 0, 2, 0);
        forge.build();
        forge.give(7);
        forge.run(true, 1);
        Check.same("plain", forge.heard(0), 12);
        Check.same("plain, done", forge.spent(1), 6);
        forge.run(false, 1);
        Check.same("become", forge.heard(0), 12);
        Check.same("become, done: ASK, ADD, TELL", forge.spent(1), 3);
        NameForge idle = Made.blocks(1);
        idle.put(0, Made.ASK, 0, 0, 0);
        idle.put(0, Made.ASK, 1, 0, 0);
        idle.put(0, Made.TELL, 0, 1, 0);
        idle.build();
        idle.give(1);
        idle.give(2);
        idle.run(false, 1);
        Check.same("an ASK is never left out", idle.heard(0), 2);
        Check.same("nor its count", idle.spent(2), 2);
    }

    /** The IF's name is a number that nobody needs, and a phi has a number for one way. */
    private static void promise15FollowsNumbers() {
        NameForge forge = Made.blocks(5);
        forge.put(0, Made.LESS, 0, 0, 1);
        forge.fork(0, 0, 1, 2);
        forge.put(1, Made.TELL, 0, 0, 0);
        forge.put(2, Made.ASK, 1, 0, 0);
        forge.put(2, Made.SET, 2, 6, 0);
        forge.fork(2, 1, 3, 4);
        forge.put(3, Made.COPY, 2, 1, 0);
        forge.go(3, 4);
        forge.put(4, Made.TELL, 0, 2, 0);
        forge.build();
        forge.run(false, 9);
        Check.same("told", forge.told(), 1);
        Check.same("the number by its phi", forge.heard(0), 6);
        Check.same("done: ASK, TELL", forge.spent(1), 2);
        Check.same("blocks", forge.spent(0), 3);
        forge.give(-8);
        forge.run(false, 9);
        Check.same("the other name by its phi", forge.heard(0), -8);
        Check.same("done: ASK, COPY, TELL", forge.spent(1), 3);
        Check.same("blocks", forge.spent(0), 4);
    }

    private static void promise15BeginsAnew() {
        NameForge forge = Made.blocks(1);
        forge.put(0, Made.TELL, 0, 0, 0);
        forge.put(0, Made.ASK, 0, 0, 0);
        forge.put(0, Made.TELL, 0, 0, 0);
        forge.build();
        forge.give(9);
        for (int round = 0; round < 4; round++) {
            forge.run(round % 2 == 0, 1);
            Check.same("variables are 0 at first", forge.heard(0), 0);
            Check.same("the input is read from its beginning", forge.heard(1), 9);
            Check.same("told", forge.told(), 2);
            Check.same("done", forge.spent(1), 3);
            Check.same("asked for", forge.spent(2), 1);
        }
    }

    private static void promise15WrongInputs() {
        NameForge forge = Made.blocks(1);
        forge.put(0, Made.TELL, 0, 0, 0);
        for (boolean plain : Made.BOTH) {
            Check.fails("not built", STATE, () -> forge.run(plain, 0));
            for (int steps : new int[] {-1, 201, Integer.MIN_VALUE, Integer.MAX_VALUE}) {
                Check.fails("steps " + steps + " come first", ARGUMENT, () -> forge.run(plain, steps));
            }
        }
        forge.build();
        forge.run(true, 1);
        Check.fails("201 steps", ARGUMENT, () -> forge.run(false, 201));
        Check.fails("-1 steps", ARGUMENT, () -> forge.run(true, -1));
        Check.same("a run that throws is none", forge.told(), 1);
        Check.same("200 steps", forge.run(false, 200), 0);
        Check.same("0 steps", forge.run(false, 0), 1);
        Check.same("the latest run counts", forge.told(), 0);
        Check.fails("and what was told before is not kept", NO_SUCH, () -> forge.heard(0));
    }

    private static void promise16And17KeptAndLost() {
        NameForge forge = Made.counter();
        Check.same("told before", forge.told(), 0);
        Check.fails("heard before", NO_SUCH, () -> forge.heard(0));
        for (boolean plain : Made.BOTH) {
            for (int tells : new int[] {39, 40, 41, 199}) {
                forge.run(plain, tells + 1);
                Check.same("told", forge.told(), tells);
                int kept = Math.min(tells, 40);
                Check.same("the first", forge.heard(0), 1);
                Check.same("the last that is kept", forge.heard(kept - 1), kept);
                Check.fails("one more", NO_SUCH, () -> forge.heard(kept));
            }
            for (int k : new int[] {-1, 40, 41, 199, Integer.MIN_VALUE, Integer.MAX_VALUE}) {
                Check.fails("heard(" + k + ")", NO_SUCH, () -> forge.heard(k));
            }
        }
        forge.block();
        Check.same("told when not built", forge.told(), 199);
        Check.same("heard when not built", forge.heard(39), 40);
    }

    /** "(all of them ..)": 200 blocks of six are the most that can be told. */
    private static void promise16Most() {
        NameForge forge = Made.blocks(2);
        for (int i = 0; i < 6; i++) {
            forge.put(0, Made.TELL, 0, i, 0);
            forge.put(1, Made.TELL, 0, i, 0);
        }
        forge.go(0, 1);
        forge.go(1, 1);
        forge.build();
        for (boolean plain : Made.BOTH) {
            Check.same("run", forge.run(plain, 200), 1);
            Check.same("told", forge.told(), 1200);
            Check.same("done", forge.spent(1), 1200);
            Check.same("the last that is kept", forge.heard(39), 0);
            Check.fails("the first that is lost", NO_SUCH, () -> forge.heard(40));
            Check.fails("the last that is lost", NO_SUCH, () -> forge.heard(1199));
        }
    }

    private static void promise18Spent() {
        NameForge forge = Made.echo();
        for (int what : new int[] {-1, 3, Integer.MIN_VALUE, Integer.MAX_VALUE}) {
            Check.same("spent(" + what + ")", forge.spent(what), -1);
        }
        for (int what = 0; what < 3; what++) {
            Check.same("spent(" + what + ") before", forge.spent(what), 0);
        }
        forge.give(1);
        forge.give(0);
        for (boolean plain : Made.BOTH) {
            forge.run(plain, 2);
            Check.same("blocks", forge.spent(0), 2);
            Check.same("done", forge.spent(1), 2);
            Check.same("asked for", forge.spent(2), 1);
            forge.run(plain, 6);
            Check.same("blocks", forge.spent(0), 6);
            Check.same("done", forge.spent(1), 10);
            Check.same("only two are numbers of the input", forge.spent(2), 2);
        }
        forge.clear();
        Check.same("blocks when not built", forge.spent(0), 6);
        Check.same("another what", forge.spent(3), -1);
    }
}
