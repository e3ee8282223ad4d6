import java.util.NoSuchElementException;

/** Promises 1 to 7: how a program is written. */
public final class WritingTest {
    private static final Class<IllegalArgumentException> ARGUMENT = IllegalArgumentException.class;
    private static final Class<IllegalStateException> STATE = IllegalStateException.class;
    private static final Class<NoSuchElementException> NO_SUCH = NoSuchElementException.class;
    private static final int[] NO_VARIABLES = {-1, 6, 32, Integer.MIN_VALUE, Integer.MAX_VALUE};

    public static void main(String[] args) {
        promise1NewObject();
        promise2Block();
        promise2WhatIsBuilt();
        promise3Put();
        promise3WhatIsNotUsed();
        promise3WhichComesFirst();
        promise4Go();
        promise5Fork();
        promise6Stop();
        promise7Clear();
        Check.end();
    }

    private static void promise1NewObject() {
        NameForge forge = new NameForge();
        Check.fails("build of nothing", STATE, forge::build);
        Check.fails("look of nothing", NO_SUCH, () -> forge.look(0, 0));
        Check.fails("stop of nothing", ARGUMENT, () -> forge.stop(0));
        Check.fails("phi of nothing", STATE, () -> forge.phi(0, 0, -1));
        Check.fails("uses of nothing", STATE, () -> forge.uses(0, 0, 0));
        Check.fails("name of nothing", STATE, () -> forge.name(0, 0));
        Check.fails("run of nothing", STATE, () -> forge.run(false, 0));
        Check.same("told before", forge.told(), 0);
        for (int what = 0; what < 3; what++) {
            Check.same("spent before", forge.spent(what), 0);
        }
        Check.fails("heard before", NO_SUCH, () -> forge.heard(0));
        forge.block();
        forge.put(0, Made.ASK, 0, 0, 0);
        forge.put(0, Made.TELL, 0, 0, 0);
        forge.build();
        forge.run(true, 1);
        Check.same("no input", forge.heard(0), 0);
        Check.same("no input asked for", forge.spent(2), 0);
        Check.holds("two objects share nothing", new NameForge().block() == 0);
    }

    private static void promise2Block() {
        NameForge forge = new NameForge();
        for (int b = 0; b < 10; b++) {
            Check.same("block()", forge.block(), b);
        }
        Check.fails("an eleventh block", STATE, forge::block);
        Check.fails("an eleventh block, again", STATE, forge::block);
        forge.build();
        Check.same("a new block stops", forge.run(true, 1), 0);
        Check.same("the tenth is there", forge.look(9, 4), 0);
        Check.fails("the eleventh is not", NO_SUCH, () -> forge.look(10, 4));
    }

    private interface Change {
        void on(NameForge forge);
    }

    private static void promise2WhatIsBuilt() {
        ends("block()", 2, NameForge::block);
        ends("put()", 2, f -> f.put(1, Made.SET, 0, 0, 0));
        ends("go()", 2, f -> f.go(0, 1));
        ends("fork()", 2, f -> f.fork(0, 0, 1, 1));
        ends("stop()", 2, f -> f.stop(0));
        lasts("block() that throws", 10, STATE, NameForge::block);
        lasts("put() that throws", 2, ARGUMENT, f -> f.put(2, Made.SET, 0, 0, 0));
        lasts("go() that throws", 2, ARGUMENT, f -> f.go(0, 0));
        lasts("fork() that throws", 2, ARGUMENT, f -> f.fork(0, 0, 1, 0));
        lasts("stop() that throws", 2, ARGUMENT, f -> f.stop(2));
        NameForge forge = Made.blocks(1);
        for (int i = 0; i < 6; i++) {
            forge.put(0, Made.SET, 0, i, 0);
        }
        forge.build();
        Check.fails("a seventh instruction", STATE, () -> forge.put(0, Made.SET, 0, 0, 0));
        Check.same("is built after put() threw", forge.name(0, 0), 1);
        forge.give(1);
        forge.take();
        forge.run(true, 1);
        Check.same("is built after give, take and run", forge.name(0, 0), 1);
        forge.clear();
        Check.fails("clear() ends what was built", STATE, () -> forge.name(0, 0));
    }

    private static void ends(String call, int blocks, Change change) {
        NameForge forge = Made.built(blocks);
        Check.same("built before " + call, forge.look(0, 0), 1);
        change.on(forge);
        Check.fails("look after " + call, STATE, () -> forge.look(0, 0));
        Check.fails("phi after " + call, STATE, () -> forge.phi(0, 0, -1));
        Check.fails("uses after " + call, STATE, () -> forge.uses(0, 0, 0));
        Check.fails("name after " + call, STATE, () -> forge.name(0, 0));
        Check.fails("run after " + call, STATE, () -> forge.run(true, 1));
        forge.build();
        Check.same("built again after " + call, forge.look(0, 0), 1);
    }

    private static void lasts(String call, int blocks, Class<? extends RuntimeException> due, Change change) {
        NameForge forge = Made.built(blocks);
        Check.fails(call, due, () -> change.on(forge));
        Check.same("still built after " + call, forge.look(0, 0), 1);
        Check.same("can be run after " + call, forge.run(false, 1), 0);
    }

    private static void promise3Put() {
        NameForge forge = Made.blocks(2);
        for (int i = 1; i <= 6; i++) {
            Check.same("put(1, ..)", forge.put(1, Made.SET, 0, i, 0), i);
        }
        Check.fails("a seventh", STATE, () -> forge.put(1, Made.SET, 0, 0, 0));
        Check.same("put(0, ..)", forge.put(0, Made.TELL, 0, 5, 0), 1);
        for (int block : new int[] {-1, 2, 10, 32, Integer.MIN_VALUE, Integer.MAX_VALUE}) {
            Check.fails("put into block " + block, ARGUMENT, () -> forge.put(block, Made.SET, 0, 0, 0));
        }
        for (int kind : new int[] {-1, 8, Integer.MIN_VALUE, Integer.MAX_VALUE}) {
            Check.fails("put of kind " + kind, ARGUMENT, () -> forge.put(0, kind, 0, 0, 0));
        }
        forge.build();
        Check.same("instructions of 0", forge.look(0, 4), 1);
        Check.same("instructions of 1", forge.look(1, 4), 6);
        Check.fails("a wrong block with 6", ARGUMENT, () -> forge.put(2, Made.SET, 0, 0, 0));
    }

    private static void promise3WhatIsNotUsed() {
        boolean[] usesD = {true, true, true, true, true, true, true, false};
        boolean[] usesX = {false, true, true, true, true, true, false, true};
        boolean[] usesY = {false, false, true, true, true, true, false, false};
        for (int kind = 0; kind < 8; kind++) {
            for (int wrong : NO_VARIABLES) {
                putOne(kind, wrong, 0, 0, usesD[kind]);
                putOne(kind, 0, wrong, 0, usesX[kind]);
                putOne(kind, 0, 0, wrong, usesY[kind]);
            }
            for (int v = 0; v < 6; v++) {
                putOne(kind, v, v, v, false);
            }
        }
    }

    private static void putOne(int kind, int d, int x, int y, boolean isWrong) {
        NameForge forge = Made.blocks(1);
        String call = "put(0, " + kind + ", " + d + ", " + x + ", " + y + ")";
        if (isWrong) {
            Check.fails(call, ARGUMENT, () -> forge.put(0, kind, d, x, y));
            Check.same("nothing was put by " + call, forge.put(0, Made.SET, 0, 0, 0), 1);
        } else {
            Check.same(call, forge.put(0, kind, d, x, y), 1);
            forge.build();
            Check.same("runs with " + call, forge.run(true, 1) + forge.run(false, 1), 0);
        }
    }

    private static void promise3WhichComesFirst() {
        NameForge forge = Made.blocks(1);
        for (int i = 0; i < 6; i++) {
            forge.put(0, Made.SET, 0, 0, 0);
        }
        Check.fails("a wrong kind in a full block", ARGUMENT, () -> forge.put(0, 8, 0, 0, 0));
        Check.fails("a wrong variable in a full block", ARGUMENT, () -> forge.put(0, Made.SET, 6, 0, 0));
        Check.fails("a full block", STATE, () -> forge.put(0, Made.SET, 5, 6, 6));
    }

    private static void promise4Go() {
        NameForge forge = Made.blocks(3);
        for (int block : new int[] {-1, 3, 10, 33, Integer.MIN_VALUE, Integer.MAX_VALUE}) {
            Check.fails("go(" + block + ", 1)", ARGUMENT, () -> forge.go(block, 1));
            Check.fails("go(1, " + block + ")", ARGUMENT, () -> forge.go(1, block));
        }
        Check.fails("go(1, 0)", ARGUMENT, () -> forge.go(1, 0));
        forge.go(0, 1);
        forge.go(0, 2);
        forge.put(2, Made.TELL, 0, 0, 0);
        forge.build();
        Check.same("1 is not reached", forge.look(1, 0), 0);
        Check.same("2 is reached", forge.look(2, 0), 1);
        Check.same("0 has no IF", forge.look(0, 5), -1);
        Check.same("run", forge.run(true, 2), 0);
        Check.same("2 was run", forge.told(), 1);
        forge.go(2, 2);
        forge.build();
        Check.same("a block may go to itself", forge.run(true, 200), 1);
        Check.same("and does", forge.spent(0), 200);
    }

    private static void promise5Fork() {
        NameForge forge = Made.blocks(3);
        for (int block : new int[] {-1, 3, 10, 33, Integer.MIN_VALUE, Integer.MAX_VALUE}) {
            Check.fails("fork of block " + block, ARGUMENT, () -> forge.fork(block, 0, 1, 2));
            Check.fails("fork to " + block, ARGUMENT, () -> forge.fork(0, 0, block, 2));
            Check.fails("fork otherwise to " + block, ARGUMENT, () -> forge.fork(0, 0, 1, block));
        }
        Check.fails("fork to 0", ARGUMENT, () -> forge.fork(0, 0, 0, 1));
        Check.fails("fork otherwise to 0", ARGUMENT, () -> forge.fork(0, 0, 1, 0));
        for (int x : NO_VARIABLES) {
            Check.fails("fork by " + x, ARGUMENT, () -> forge.fork(0, x, 1, 2));
        }
        forge.put(0, Made.ASK, 5, 0, 0);
        forge.fork(0, 5, 1, 2);
        forge.put(1, Made.TELL, 0, 5, 0);
        forge.build();
        forge.give(-3);
        for (boolean plain : Made.BOTH) {
            forge.run(plain, 9);
            Check.same("not 0 goes to t", forge.told(), 1);
        }
        forge.take();
        for (boolean plain : Made.BOTH) {
            forge.run(plain, 9);
            Check.same("0 goes to u", forge.told(), 0);
        }
    }

    private static void promise6Stop() {
        NameForge forge = Made.blocks(2);
        forge.go(0, 1);
        forge.stop(0);
        forge.build();
        Check.same("1 is reached no more", forge.look(1, 0), 0);
        Check.same("it stops", forge.run(true, 1), 0);
        forge.fork(0, 0, 1, 1);
        forge.stop(0);
        forge.build();
        Check.same("no IF any more", forge.look(0, 5), -1);
        for (int block : new int[] {-1, 2, 10, Integer.MIN_VALUE, Integer.MAX_VALUE}) {
            Check.fails("stop(" + block + ")", ARGUMENT, () -> forge.stop(block));
        }
    }

    private static void promise7Clear() {
        NameForge forge = Made.blocks(10);
        forge.put(0, Made.ASK, 3, 0, 0);
        forge.put(0, Made.TELL, 0, 3, 0);
        forge.fork(0, 3, 1, 2);
        forge.give(8);
        forge.build();
        forge.run(true, 5);
        forge.clear();
        Check.fails("build after clear", STATE, forge::build);
        Check.fails("put after clear", ARGUMENT, () -> forge.put(0, Made.SET, 0, 0, 0));
        Check.fails("look after clear", NO_SUCH, () -> forge.look(0, 0));
        Check.fails("run after clear", STATE, () -> forge.run(true, 1));
        Check.same("what was told stays", forge.heard(0), 8);
        Check.same("what was spent stays", forge.spent(0), 2);
        Check.same("blocks begin again", forge.block(), 0);
        forge.build();
        Check.same("without instructions", forge.look(0, 4), 0);
        Check.same("and with STOP", forge.run(true, 1), 0);
        forge.put(0, Made.ASK, 1, 0, 0);
        forge.put(0, Made.TELL, 0, 1, 0);
        forge.build();
        forge.run(true, 1);
        Check.same("the input stays", forge.heard(0), 8);
        forge.clear();
        forge.clear();
        for (int b = 0; b < 10; b++) {
            Check.same("ten again", forge.block(), b);
        }
    }
}
