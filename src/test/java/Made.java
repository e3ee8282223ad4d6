/** Forges that several tests begin with, and the numbers of kinds. */
final class Made {
    static final int SET = 0;
    static final int COPY = 1;
    static final int ADD = 2;
    static final int SUBTRACT = 3;
    static final int MULTIPLY = 4;
    static final int LESS = 5;
    static final int ASK = 6;
    static final int TELL = 7;

    /** The two kinds of runs: as it is written, and as it has become. */
    static final boolean[] BOTH = {true, false};

    private Made() {
    }

    static NameForge blocks(int count) {
        NameForge forge = new NameForge();
        for (int b = 0; b < count; b++) {
            forge.block();
        }
        return forge;
    }

    static NameForge built(int count) {
        NameForge forge = blocks(count);
        forge.build();
        return forge;
    }

    /** Block 0 asks v0; 1 and 2 each set v1 to a number; they meet in 3, which tells v1. */
    static NameForge diamond(int first, int second) {
        NameForge forge = blocks(4);
        forge.put(0, ASK, 0, 0, 0);
        forge.fork(0, 0, 1, 2);
        forge.put(1, SET, 1, first, 0);
        forge.go(1, 3);
        forge.put(2, SET, 1, second, 0);
        forge.go(2, 3);
        forge.put(3, TELL, 0, 1, 0);
        forge.build();
        return forge;
    }

    /** Two numbers are asked, told and changed for one another, for ever. */
    static NameForge swap() {
        NameForge forge = blocks(2);
        forge.put(0, ASK, 0, 0, 0);
        forge.put(0, ASK, 1, 0, 0);
        forge.go(0, 1);
        forge.put(1, TELL, 0, 0, 0);
        forge.put(1, TELL, 0, 1, 0);
        forge.put(1, COPY, 2, 0, 0);
        forge.put(1, COPY, 0, 1, 0);
        forge.put(1, COPY, 1, 2, 0);
        forge.go(1, 1);
        forge.build();
        return forge;
    }

    /** Asks and tells for ever, one number a block, after one empty block. */
    static NameForge echo() {
        NameForge forge = blocks(2);
        forge.go(0, 1);
        forge.put(1, ASK, 0, 0, 0);
        forge.put(1, TELL, 0, 0, 0);
        forge.go(1, 1);
        forge.build();
        return forge;
    }

    /** Tells 1, 2, 3, .., each in a block of its own, after one block that tells nothing. */
    static NameForge counter() {
        NameForge forge = blocks(2);
        forge.put(0, SET, 1, 1, 0);
        forge.go(0, 1);
        forge.put(1, ADD, 0, 0, 1);
        forge.put(1, TELL, 0, 0, 0);
        forge.go(1, 1);
        forge.build();
        return forge;
    }
}
