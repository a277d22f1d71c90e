/** Long runs of chance calls, right and wrong ones, each answer held against PlainHerd. */
public final class RandomRunsTest {
    private static final int RUNS = 1000;
    // What an object answers after so many calls is free.
    private static final int CALLS = 512;

    private final Check check;
    private final HerdKinship herd = new HerdKinship();
    private final PlainHerd plain = new PlainHerd();
    private final int run;
    private final boolean wild;
    private final int enterEvery;
    private final int cullEvery;
    private int calls = 0;
    private long seed;

    private RandomRunsTest(Check check, int run) {
        this.check = check;
        this.run = run;
        wild = run % 3 == 0;
        enterEvery = run % 4 == 0 ? 20 : 3;
        cullEvery = run % 5 == 0 ? 4 : 25;
        seed = run * 7919L + 17;
    }

    public static void main(String[] args) {
        Check check = new Check();
        for (int run = 0; run < RUNS; run += 2) {
            RandomRunsTest one = new RandomRunsTest(check, run);
            RandomRunsTest other = new RandomRunsTest(check, run + 1);
            // In turn: what is done to one object must not be seen in the other.
            while (one.calls < CALLS || other.calls < CALLS) {
                one.step();
                other.step();
            }
        }
        check.end();
    }

    // A generator of its own with a fixed start: every run of the test makes the same calls.
    private int chance(int bound) {
        seed = seed * 6364136223846793005L + 1442695040888963407L;
        return (int) ((seed >>> 33) % bound);
    }

    private void call(String name, long... arguments) {
        if (calls < CALLS) {
            calls++;
            NamedCall call = new NamedCall(name, arguments);
            check.text("run " + run + ", call " + calls + ": " + call, call.answerOf(plain), call.answerOf(herd));
        }
    }

    private void step() {
        if (chance(enterEvery) == 0) {
            enterOne();
        } else if (chance(12) == 0) {
            call("correct", animal(), parent(0), parent(1));
        } else if (chance(cullEvery) == 0 && (plain.animals() > 8 || chance(8) == 0)) {
            call("cull", animal());
        } else if (chance(8) == 0) {
            planOne();
        } else {
            ask();
        }
    }

    private int animal() {
        return chance(wild ? 10 : 60) == 0 ? chance(40) - 8 : chance(Math.max(1, plain.animals()));
    }

    private int parent(int sex) {
        int n = plain.animals();
        if (n == 0 || chance(6) == 0) {
            return PlainHerd.NONE;
        }
        for (int tries = 0; tries < 20 && !(wild && chance(8) == 0); tries++) {
            int a = n - 1 - chance(1 + chance(n));
            if (plain.of(a, 2) == sex) {
                return a;
            }
        }
        return animal();
    }

    private void enterOne() {
        int sex = chance(30) == 0 ? chance(4) - 1 : chance(2);
        int year = chance(30) == 0 ? chance(70) - 5 : Math.min(60, 2 * plain.animals() + chance(4));
        call("enter", parent(0), parent(1), sex, year);
    }

    private int cows(int most) {
        int set = 0;
        for (int tries = 8 * chance(most + 1); tries > 0 && Integer.bitCount(set) < most; tries--) {
            int a = chance(Math.max(1, plain.animals()));
            if (a < plain.animals() && plain.of(a, 2) == 1 && plain.of(a, 4) == 1) {
                set |= 1 << a;
            }
        }
        return chance(wild ? 8 : 40) == 0 ? set ^ 1 << chance(32) : set;
    }

    private long most() {
        switch (chance(6)) {
            case 0:
                return PlainHerd.ONE >> chance(12);
            case 1:
                return (PlainHerd.ONE >> chance(12)) - 1;
            case 2:
                return chance(3) - 1;
            default:
                return Long.MAX_VALUE;
        }
    }

    private void planOne() {
        int cows = cows(wild ? 6 : 5);
        int limit = chance(12) == 0 ? chance(12) - 1 : 1 + chance(3);
        call("plan", cows, limit, most());
        for (int cow = 0; cow < plain.animals(); cow++) {
            if ((cows & 1 << cow) != 0) {
                call("bull", cow);
            }
        }
    }

    private void ask() {
        int kind = chance(10);
        if (kind < 3) {
            call(Whole.OF_ONE[chance(Whole.OF_ONE.length)], animal());
        } else if (kind < 6) {
            call(Whole.OF_TWO[chance(Whole.OF_TWO.length)], animal(), animal());
        } else if (kind < 8) {
            call("of", animal(), chance(6) + (wild ? chance(3) - 1 : 0));
        } else {
            call(kind == 8 ? "planned" : chance(3) == 0 ? "animals" : "herd");
        }
    }
}
