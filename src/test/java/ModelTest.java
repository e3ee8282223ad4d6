import java.util.NoSuchElementException;
import java.util.function.LongSupplier;

/**
 * Runs of 512 calls of every kind in any order, right ones and wrong ones, made by a fixed row of
 * numbers; each answer is compared with that of Model.
 */
public final class ModelTest {
    private static final int RUNS = 1000;
    private static final int CALLS = 512;
    private static final int[] FAR = {Integer.MIN_VALUE, -2, -1, 6, 10, 11, 31, 32, 33, Integer.MAX_VALUE};
    /** What is answered for an exception that no call may throw. */
    private static final long ANOTHER = Long.MAX_VALUE;
    private static long seed = 18;

    private static NameForge forge;
    private static Model model;
    private static String call;

    private static int answersOfBuilt;
    private static int argumentsRefused;
    private static int statesRefused;
    private static int elementsRefused;
    private static int longTellings;

    public static void main(String[] args) {
        for (int run = 0; run < RUNS; run++) {
            forge = new NameForge();
            model = new Model();
            int changes = 1 + pick(12);
            for (int k = 0; k < CALLS; k++) {
                boolean writes = pick(100) < (model.blocks() == 0 ? 60 : k < 40 ? 90 : changes);
                LongSupplier[] pair = writes ? change() : pick(6) == 0 ? machine() : question();
                compare("run " + run + ", call " + k + ": ", pair);
            }
        }
        Check.holds("the runs are of many kinds", answersOfBuilt > 100000 && argumentsRefused > 10000
            && statesRefused > 10000 && elementsRefused > 10000 && longTellings > 1000);
        Check.end();
    }

    private static void compare(String id, LongSupplier[] pair) {
        long due = pair[1].getAsLong();
        long got = answerOf(pair[0]);
        Check.same(id + call, got, due);
        argumentsRefused += due == Model.ARGUMENT ? 1 : 0;
        statesRefused += due == Model.STATE ? 1 : 0;
        elementsRefused += due == Model.NO_ELEMENT ? 1 : 0;
        answersOfBuilt += model.isBuilt() && due > Model.NO_ELEMENT ? 1 : 0;
        longTellings += model.told() > 40 ? 1 : 0;
    }

    private static long answerOf(LongSupplier one) {
        try {
            return one.getAsLong();
        } catch (RuntimeException e) {
            // Of these very classes: no other may reach the caller.
            return e.getClass() == IllegalArgumentException.class ? Model.ARGUMENT
                : e.getClass() == IllegalStateException.class ? Model.STATE
                : e.getClass() == NoSuchElementException.class ? Model.NO_ELEMENT : ANOTHER;
        }
    }

    private static int pick(int below) {
        seed = seed * 6364136223846793005L + 1442695040888963407L;
        return (int) ((seed >>> 33) % below);
    }

    /** Mostly a number from low to high, now and then one just outside, or far away. */
    private static int near(int low, int high) {
        int kind = pick(40);
        if (kind == 0) {
            return FAR[pick(FAR.length)];
        }
        if (kind == 1) {
            return pick(2) == 0 ? low - 1 : high + 1;
        }
        return low + pick(Math.max(1, high - low + 1));
    }

    private static int someBlock() {
        return near(0, model.blocks() - 1);
    }

    private static int target() {
        return near(1, model.blocks() - 1);
    }

    private static LongSupplier[] pair(String text, LongSupplier ofForge, LongSupplier ofModel) {
        call = text;
        return new LongSupplier[] {ofForge, ofModel};
    }

    private static long done(Runnable action) {
        action.run();
        return 0;
    }

    private static LongSupplier[] change() {
        int kind = pick(20);
        if (kind < 4 || model.blocks() == 0 && kind < 15) {
            return pair("block()", forge::block, model::block);
        }
        if (kind < 11) {
            return put();
        }
        int b = someBlock();
        int t = target();
        if (kind < 14) {
            return pair("go(" + b + ", " + t + ")", () -> done(() -> forge.go(b, t)), () -> model.go(b, t));
        }
        if (kind < 19) {
            int x = near(0, 5);
            int u = target();
            return pair("fork(" + b + ", " + x + ", " + t + ", " + u + ")",
                () -> done(() -> forge.fork(b, x, t, u)), () -> model.fork(b, x, t, u));
        }
        if (pick(6) == 0) {
            return pair("clear()", () -> done(forge::clear), model::clear);
        }
        return pair("stop(" + b + ")", () -> done(() -> forge.stop(b)), () -> model.stop(b));
    }

    private static LongSupplier[] put() {
        int b = someBlock();
        int kind = near(0, 7);
        int d = kind == 7 ? FAR[pick(FAR.length)] : near(0, 5);
        int x = kind == 6 ? FAR[pick(FAR.length)] : near(0, 5);
        int number = pick(3) == 0 ? FAR[pick(FAR.length)] : x;
        int second = kind < 2 || kind > 5 ? FAR[pick(FAR.length)] : near(0, 5);
        int first = kind == 0 ? number : x;
        return pair("put(" + b + ", " + kind + ", " + d + ", " + first + ", " + second + ")",
            () -> forge.put(b, kind, d, first, second), () -> model.put(b, kind, d, first, second));
    }

    private static LongSupplier[] machine() {
        int kind = pick(8);
        if (kind == 0) {
            return pair("take()", () -> done(forge::take), model::take);
        }
        if (kind < 4) {
            int v = pick(2) == 0 ? near(-2, 2) : 0;
            return pair("give(" + v + ")", () -> forge.give(v) ? 1 : 0, () -> model.give(v));
        }
        boolean plain = pick(2) == 0;
        int steps = pick(2) == 0 ? near(0, 200) : near(0, 12);
        return pair("run(" + plain + ", " + steps + ")", () -> forge.run(plain, steps), () -> model.run(plain, steps));
    }

    private static LongSupplier[] question() {
        if (!model.isBuilt() && pick(3) == 0) {
            return pair("build()", forge::build, model::build);
        }
        int kind = pick(16);
        int b = someBlock();
        if (kind < 4) {
            int what = near(0, 5);
            return pair("look(" + b + ", " + what + ")", () -> forge.look(b, what), () -> model.look(b, what));
        }
        if (kind < 7) {
            int k = near(0, 1);
            int what = near(-2, model.blocks() - 1);
            return pair("phi(" + b + ", " + k + ", " + what + ")", () -> forge.phi(b, k, what), () -> model.phi(b, k, what));
        }
        if (kind < 9) {
            int i = near(0, 5);
            int what = near(0, 2);
            return pair("uses(" + b + ", " + i + ", " + what + ")", () -> forge.uses(b, i, what), () -> model.uses(b, i, what));
        }
        if (kind < 12) {
            int name = near(0, model.names() - 1);
            int what = near(0, 3);
            return pair("name(" + name + ", " + what + ")", () -> forge.name(name, what), () -> model.name(name, what));
        }
        return pick(20) == 0 ? pair("build()", forge::build, model::build) : ofLatestRun();
    }

    private static LongSupplier[] ofLatestRun() {
        int kind = pick(4);
        if (kind == 0) {
            return pair("told()", forge::told, model::told);
        }
        if (kind == 1) {
            int k = pick(3) == 0 ? near(0, 39) : near(0, (int) Math.max(0, model.told() - 1));
            return pair("heard(" + k + ")", () -> forge.heard(k), () -> model.heard(k));
        }
        int what = near(0, 2);
        return pair("spent(" + what + ")", () -> forge.spent(what), () -> model.spent(what));
    }
}
