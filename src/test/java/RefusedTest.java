import java.util.ArrayList;
import java.util.List;
import java.util.NoSuchElementException;

/**
 * The limits of each argument, and calls that are refused: by which exception, built, not built and
 * without a block, and that they leave all as it was.
 */
public final class RefusedTest {
    private static final Class<IllegalArgumentException> ARGUMENT = IllegalArgumentException.class;
    private static final Class<IllegalStateException> STATE = IllegalStateException.class;
    private static final Class<NoSuchElementException> NO_SUCH = NoSuchElementException.class;

    private static final Manner WRITES = new Manner(ARGUMENT, ARGUMENT, null, ARGUMENT);
    /** "(The first one first.)" */
    private static final Manner LOOKS = new Manner(NO_SUCH, NO_SUCH, STATE, NO_SUCH);
    /** "(this one first)" */
    private static final Manner ASKS = new Manner(NO_SUCH, STATE, STATE, STATE);
    private static final Manner RUNS = new Manner(ARGUMENT, ARGUMENT, STATE, STATE);
    private static final Manner HEARS = new Manner(NO_SUCH, NO_SUCH, null, NO_SUCH);

    /** What a call throws: for a wrong argument when built and when not, for a right one when not
     * built and when there is no block. */
    private record Manner(Class<? extends RuntimeException> wrong,
            Class<? extends RuntimeException> wrongNotBuilt,
            Class<? extends RuntimeException> rightNotBuilt,
            Class<? extends RuntimeException> rightOfNothing) {
    }

    private interface Call {
        void on(NameForge forge, int n);
    }

    public static void main(String[] args) {
        promise3PutBlockAndKind();
        promise3PutVariables();
        promise4Go();
        promise5Fork();
        promise6Stop();
        promise9Look();
        promise10Phi();
        promise11Uses();
        promise12Name();
        promise15Run();
        promise17Heard();
        promise2EleventhBlock();
        promise3SeventhInstruction();
        promise8BuildOfNothing();
        promise13SeventeenthNumber();
        questionsChangeNothing();
        Check.end();
    }

    private static void promise3PutBlockAndKind() {
        range("put(n, ..)", 0, 3, WRITES, (f, n) -> f.put(n, Made.SET, 0, 0, 0));
        range("put(0, n, ..)", 0, 7, WRITES, (f, n) -> f.put(0, n, 0, 0, 0));
    }

    private static void promise3PutVariables() {
        for (int k = 0; k < 8; k++) {
            int kind = k;
            if (kind != Made.TELL) {
                range("put(1, " + k + ", n, 0, 0)", 0, 5, WRITES, (f, n) -> f.put(1, kind, n, 0, 0));
            }
            if (kind != Made.SET && kind != Made.ASK) {
                range("put(1, " + k + ", 0, n, 0)", 0, 5, WRITES, (f, n) -> f.put(1, kind, 0, n, 0));
            }
            if (kind >= Made.ADD && kind <= Made.LESS) {
                range("put(1, " + k + ", 0, 0, n)", 0, 5, WRITES, (f, n) -> f.put(1, kind, 0, 0, n));
            }
        }
    }

    private static void promise4Go() {
        range("go(n, 1)", 0, 3, WRITES, (f, n) -> f.go(n, 1));
        range("go(0, n)", 1, 3, WRITES, (f, n) -> f.go(0, n));
        range("go(3, n)", 1, 3, WRITES, (f, n) -> f.go(3, n));
    }

    private static void promise5Fork() {
        range("fork(n, 0, 1, 2)", 0, 3, WRITES, (f, n) -> f.fork(n, 0, 1, 2));
        range("fork(0, n, 1, 2)", 0, 5, WRITES, (f, n) -> f.fork(0, n, 1, 2));
        range("fork(0, 0, n, 2)", 1, 3, WRITES, (f, n) -> f.fork(0, 0, n, 2));
        range("fork(0, 0, 1, n)", 1, 3, WRITES, (f, n) -> f.fork(0, 0, 1, n));
        range("fork(3, 5, n, n)", 1, 3, WRITES, (f, n) -> f.fork(3, 5, n, n));
    }

    private static void promise6Stop() {
        range("stop(n)", 0, 3, WRITES, (f, n) -> f.stop(n));
    }

    private static void promise9Look() {
        for (int k = 0; k < 6; k++) {
            int what = k;
            range("look(n, " + k + ")", 0, 3, LOOKS, (f, n) -> f.look(n, what));
        }
        for (int b = 0; b < 4; b++) {
            int block = b;
            range("look(" + b + ", n)", 0, 5, LOOKS, (f, n) -> f.look(block, n));
        }
    }

    private static void promise10Phi() {
        range("phi(n, 0, -1)", 3, 3, ASKS, (f, n) -> f.phi(n, 0, -1));
        range("phi(n, 0, -2)", 3, 3, ASKS, (f, n) -> f.phi(n, 0, -2));
        range("phi(n, 0, 1)", 3, 3, ASKS, (f, n) -> f.phi(n, 0, 1));
        range("phi(3, n, -1)", 0, 0, ASKS, (f, n) -> f.phi(3, n, -1));
        range("phi(3, n, 2)", 0, 0, ASKS, (f, n) -> f.phi(3, n, 2));
        int[] whats = {-2, -1, 1, 2};
        set("phi(3, 0, n)", whats, Edges.outside(whats), ASKS, (f, n) -> f.phi(3, 0, n));
    }

    private static void promise11Uses() {
        range("uses(n, 0, 0)", 0, 3, ASKS, (f, n) -> f.uses(n, 0, 0));
        for (int b = 0; b < 4; b++) {
            int block = b;
            range("uses(" + b + ", n, 1)", 0, 0, ASKS, (f, n) -> f.uses(block, n, 1));
            range("uses(" + b + ", 0, n)", 0, 2, ASKS, (f, n) -> f.uses(block, 0, n));
        }
    }

    private static void promise12Name() {
        for (int k = 0; k < 4; k++) {
            int what = k;
            range("name(n, " + k + ")", 0, 9, ASKS, (f, n) -> f.name(n, what));
        }
        for (int k = 0; k < 10; k++) {
            int name = k;
            range("name(" + k + ", n)", 0, 3, ASKS, (f, n) -> f.name(name, n));
        }
    }

    private static void promise15Run() {
        range("run(true, n)", 0, 200, RUNS, (f, n) -> f.run(true, n));
        range("run(false, n)", 0, 200, RUNS, (f, n) -> f.run(false, n));
    }

    private static void promise17Heard() {
        range("heard(n)", 0, 0, HEARS, (f, n) -> f.heard(n));
    }

    private static void range(String name, int low, int high, Manner manner, Call call) {
        set(name, new int[] {low, high}, Edges.outside(low, high), manner, call);
    }

    private static void set(String name, int[] right, int[] wrong, Manner manner, Call call) {
        for (int n : right) {
            String title = name + ", n = " + n;
            taken(title, prepared(), n, call);
            if (manner.rightNotBuilt == null) {
                taken(title + " when not built", notBuilt(), n, call);
            } else {
                refused(title + " when not built", notBuilt(), manner.rightNotBuilt, n, call);
            }
            refusedOfNothing(title, manner.rightOfNothing, n, call);
        }
        for (int n : wrong) {
            String title = name + ", n = " + n;
            refused(title, prepared(), manner.wrong, n, call);
            refused(title + " when not built", notBuilt(), manner.wrongNotBuilt, n, call);
            refusedOfNothing(title, manner.wrongNotBuilt, n, call);
        }
    }

    private static void taken(String title, NameForge forge, int n, Call call) {
        Check.fails(title, null, () -> call.on(forge, n));
    }

    /** Here it may be that the picture has no names in it: then it shows them after build(). */
    private static void refused(String title, NameForge forge, Class<? extends RuntimeException> due,
            int n, Call call) {
        List<Long> before = picture(forge);
        Check.fails(title, due, () -> call.on(forge, n));
        Check.holds(title + " leaves all as it was", picture(forge).equals(before));
        forge.build();
        Check.holds(title + " leaves the program as it was", picture(forge).equals(picture(prepared())));
        Check.same(title + ": run", forge.run(true, 9), 0);
        Check.same(title + ": the input", forge.heard(0), 4);
        Check.same(title + ": blocks", forge.spent(0), 3);
    }

    private static void refusedOfNothing(String title, Class<? extends RuntimeException> due, int n, Call call) {
        NameForge forge = new NameForge();
        Check.fails(title + " of nothing", due, () -> call.on(forge, n));
        Check.same(title + " leaves nothing", forge.block(), 0);
        Check.same(title + " leaves no names", forge.build(), 6);
        Check.same(title + " leaves nothing told", forge.told() + forge.spent(0), 0);
    }

    /** A diamond with an input, built, and run; its picture is told by hand in NamesTest. */
    private static NameForge prepared() {
        NameForge forge = Made.diamond(4, 5);
        forge.give(1);
        forge.give(0);
        forge.run(true, 9);
        return forge;
    }

    /** The same program and run, but not built: block 3 stops already. */
    private static NameForge notBuilt() {
        NameForge forge = prepared();
        forge.stop(3);
        return forge;
    }

    private interface Question {
        int answer();
    }

    private static void ask(List<Long> picture, Question question) {
        long answer;
        try {
            answer = question.answer();
        } catch (RuntimeException e) {
            answer = Long.MIN_VALUE + e.getClass().getName().length();
        }
        picture.add(answer);
    }

    /** What can be asked of the diamond, in fewer than 100 calls. */
    private static List<Long> picture(NameForge forge) {
        List<Long> picture = new ArrayList<>();
        ask(picture, forge::told);
        ask(picture, () -> forge.heard(0));
        ask(picture, () -> forge.heard(1));
        for (int b = 0; b < 4; b++) {
            int block = b;
            for (int k = 0; k < 6; k++) {
                int what = k;
                ask(picture, () -> forge.look(block, what));
            }
            for (int k = 0; k < 3; k++) {
                int what = k;
                ask(picture, () -> forge.uses(block, 0, what));
                ask(picture, () -> forge.spent(what));
            }
            ask(picture, () -> forge.uses(block, 1, 0));
            ask(picture, () -> forge.phi(3, 0, block));
        }
        for (int n = 0; n < 11; n++) {
            int name = n;
            for (int k = 0; k < 3; k++) {
                int what = k;
                ask(picture, () -> forge.name(name, what));
            }
        }
        return picture;
    }

    /** "Throws IllegalStateException when there are 10." */
    private static void promise2EleventhBlock() {
        NameForge forge = Made.blocks(9);
        Check.same("the tenth", forge.block(), 9);
        forge.put(9, Made.SET, 0, 7, 0);
        forge.put(9, Made.TELL, 0, 0, 0);
        forge.go(0, 9);
        Check.fails("an eleventh, not built", STATE, forge::block);
        Check.fails("it does not build", STATE, () -> forge.look(0, 0));
        forge.build();
        Check.fails("an eleventh, built", STATE, forge::block);
        Check.same("it is still built", forge.look(9, 4), 2);
        Check.same("the END of 0 is as it was", forge.look(9, 1), 0);
        Check.fails("there is no block 10", NO_SUCH, () -> forge.look(10, 0));
        Check.fails("none to put into", ARGUMENT, () -> forge.put(10, Made.SET, 0, 0, 0));
        Check.fails("none to go to", ARGUMENT, () -> forge.go(0, 10));
        forge.run(false, 2);
        Check.same("it runs as before", forge.heard(0), 7);
        forge.clear();
        Check.same("after clear() there is room", forge.block(), 0);
    }

    /** "IllegalStateException when it has 6": the six stay, and other blocks have room. */
    private static void promise3SeventhInstruction() {
        for (int kind = 0; kind < 8; kind++) {
            int seventh = kind;
            NameForge forge = Made.blocks(2);
            for (int v = 0; v < 5; v++) {
                forge.put(1, Made.SET, v, 10 + v, 0);
            }
            Check.same("the sixth", forge.put(1, Made.TELL, 0, 4, 0), 6);
            Check.fails("a seventh, not built", STATE, () -> forge.put(1, seventh, 4, 4, 4));
            forge.go(0, 1);
            forge.build();
            Check.fails("a seventh, built", STATE, () -> forge.put(1, seventh, 4, 4, 4));
            Check.same("it has six", forge.look(1, 4), 6);
            Check.fails("it has no seventh", NO_SUCH, () -> forge.uses(1, 6, 0));
            Check.same("it is still built", forge.name(10, 1), 14);
            Check.same("its six are as they were", forge.build(), 11);
            forge.run(true, 2);
            Check.same("all six are done", forge.spent(1), 6);
            Check.same("one is told", forge.told(), 1);
            Check.same("the other block has room", forge.put(0, seventh, 4, 4, 4), 1);
        }
    }

    /** "Throws IllegalStateException when there is no block." */
    private static void promise8BuildOfNothing() {
        NameForge fresh = new NameForge();
        Check.fails("build() of a new object", STATE, fresh::build);
        Check.fails("it is not built", STATE, () -> fresh.name(0, 0));
        Check.same("one block is enough", fresh.block() + fresh.build(), 6);
        NameForge forge = prepared();
        forge.clear();
        Check.fails("build() after clear()", STATE, forge::build);
        Check.fails("build() again", STATE, forge::build);
        Check.fails("it is not built", STATE, () -> forge.run(true, 0));
        Check.fails("nor has it names", STATE, () -> forge.name(0, 0));
        Check.same("what was told stays", forge.heard(0), 4);
        Check.same("what was spent stays", forge.spent(0), 3);
        forge.block();
        forge.put(0, Made.ASK, 0, 0, 0);
        forge.put(0, Made.TELL, 0, 0, 0);
        forge.build();
        forge.run(true, 1);
        Check.same("the input stays", forge.heard(0), 1);
    }

    /** "true; false when it has 16": what is refused is not behind the input, nor in it. */
    private static void promise13SeventeenthNumber() {
        NameForge forge = Made.echo();
        for (int k = 0; k < 15; k++) {
            forge.give(k + 1);
        }
        Check.holds("the sixteenth", forge.give(Integer.MAX_VALUE));
        for (int v : Edges.INTS) {
            Check.holds("a seventeenth: give(" + v + ")", !forge.give(v));
        }
        for (boolean plain : Made.BOTH) {
            forge.run(plain, 19);
            Check.same("the first", forge.heard(0), 1);
            Check.same("the fifteenth", forge.heard(14), 15);
            Check.same("the sixteenth", forge.heard(15), Integer.MAX_VALUE);
            Check.same("no seventeenth", forge.heard(16), 0);
            Check.same("no eighteenth", forge.heard(17), 0);
            Check.same("sixteen of the input", forge.spent(2), 16);
        }
        Check.holds("a run makes no room", !forge.give(1));
        forge.clear();
        Check.holds("clear() makes no room", !forge.give(1));
        forge.take();
        Check.holds("take() does", forge.give(1));
    }

    private static void questionsChangeNothing() {
        NameForge forge = prepared();
        List<Long> first = picture(forge);
        Check.holds("asked again", picture(forge).equals(first));
        forge.build();
        Check.holds("built again", picture(forge).equals(first));
        forge.give(5);
        forge.take();
        Check.holds("give() and take() change neither names nor the latest run", picture(forge).equals(first));
    }
}
