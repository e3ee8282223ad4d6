/** "An object is used for at most 512 calls after it has been made": all 512 are answered right. */
public final class CallsTest {
    private static final int CALLS = 512;
    private static int calls;

    public static void main(String[] args) {
        greatestProgramBuiltAndRun();
        programsOneAfterAnother();
        blocksAndClear();
        inputsAndTake();
        refusedCalls();
        Check.end();
    }

    private static int counted(int answer) {
        calls++;
        return answer;
    }

    /** Ten full blocks, every one with all phis but 0, gone round and round. */
    private static NameForge greatest() {
        NameForge forge = Made.blocks(10);
        for (int b = 0; b < 10; b++) {
            forge.put(b, Made.ASK, 0, 0, 0);
            for (int v = 1; v < 5; v++) {
                forge.put(b, Made.ADD, v, v, v - 1);
            }
            forge.put(b, Made.TELL, 0, 4, 0);
            forge.fork(b, 0, b % 9 + 1, b < 2 ? 9 : b - 1);
        }
        return forge;
    }

    private static void greatestProgramBuiltAndRun() {
        NameForge forge = greatest();
        calls = 80;
        for (int k = 0; k < 16; k++) {
            counted(forge.give(k % 3) ? 1 : 0);
        }
        int told = 0;
        int last = 0;
        for (int round = 0; calls + 8 <= CALLS; round++) {
            Check.same("build()", counted(forge.build()), 6 + 10 * 5 + 9 * 5);
            Check.same("plain", counted(forge.run(true, 200)), 1);
            int plain = counted(forge.heard(39));
            Check.same("become", counted(forge.run(false, 200)), 1);
            Check.same("the same is told", counted(forge.heard(39)), plain);
            Check.same("one a block", counted(forge.told()), 200);
            Check.same("blocks", counted(forge.spent(0)), 200);
            Check.same("done", counted(forge.spent(1)), 1200);
            Check.holds("the same in each round", round == 0 || plain == last);
            last = plain;
            told++;
        }
        Check.holds("it has been so many times", told > 50 && calls <= CALLS);
    }

    private static void programsOneAfterAnother() {
        NameForge forge = new NameForge();
        calls = 0;
        for (int round = 0; calls + 8 <= CALLS; round++) {
            Check.same("block()", counted(forge.block()), 0);
            Check.same("SET", counted(forge.put(0, Made.SET, round % 6, round, 0)), 1);
            Check.same("TELL", counted(forge.put(0, Made.TELL, 0, round % 6, 0)), 2);
            Check.same("build()", counted(forge.build()), 7);
            Check.same("the number", counted(forge.name(6, 1)), round);
            Check.same("run", counted(forge.run(round % 2 == 0, 1)), 0);
            Check.same("heard", counted(forge.heard(0)), round);
            forge.clear();
            calls++;
        }
        Check.same("calls", calls, CALLS);
    }

    private static void blocksAndClear() {
        NameForge forge = new NameForge();
        for (calls = 0; calls + 11 <= CALLS - 2; calls++) {
            for (int b = 0; b < 10; b++) {
                Check.same("block()", counted(forge.block()), b);
            }
            forge.clear();
        }
        Check.same("block() once more", counted(forge.block()), 0);
        Check.same("build()", counted(forge.build()), 6);
        Check.holds("calls", calls <= CALLS);
    }

    private static void inputsAndTake() {
        NameForge forge = new NameForge();
        for (calls = 0; calls + 18 <= CALLS; calls++) {
            for (int k = 0; k < 17; k++) {
                Check.same("give()", counted(forge.give(k) ? 1 : 0), k < 16 ? 1 : 0);
            }
            forge.take();
        }
        Check.holds("calls", calls <= CALLS);
    }

    private static void refusedCalls() {
        NameForge forge = Made.built(10);
        for (calls = 11; calls + 6 < CALLS; calls += 6) {
            Check.fails("block()", IllegalStateException.class, forge::block);
            Check.fails("go()", IllegalArgumentException.class, () -> forge.go(0, 0));
            Check.fails("put()", IllegalArgumentException.class, () -> forge.put(0, 8, 0, 0, 0));
            Check.fails("phi()", java.util.NoSuchElementException.class, () -> forge.phi(0, 0, -1));
            Check.fails("run()", IllegalArgumentException.class, () -> forge.run(true, 201));
            Check.fails("heard()", java.util.NoSuchElementException.class, () -> forge.heard(0));
        }
        Check.same("it is still built and stops", forge.run(false, 1), 0);
    }
}
