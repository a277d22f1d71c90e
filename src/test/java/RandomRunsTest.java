/** Long runs of chance calls, right and wrong ones, each answer held against PlainHerd. */
public final class RandomRunsTest {
    private static final int RUNS = 300;
    private static final int CALLS = 512;

    private final Check check;
    private final HerdKinship herd = new HerdKinship();
    private final PlainHerd plain = new PlainHerd();
    private final boolean wild;
    private long seed;

    private RandomRunsTest(Check check, int run) {
        this.check = check;
        wild = run % 3 == 0;
        seed = run * 7919L + 17;
    }

    public static void main(String[] args) {
        Check check = new Check();
        for (int run = 0; run < RUNS; run++) {
            RandomRunsTest test = new RandomRunsTest(check, run);
            for (int i = 0; i < CALLS; i++) {
                test.step(run);
            }
        }
        check.end();
    }

    // A generator of its own with a fixed start: every run of the test makes the same calls.
    private int chance(int bound) {
        seed = seed * 6364136223846793005L + 1442695040888963407L;
        return (int) ((seed >>> 33) % bound);
    }

    private int animal() {
        return chance(wild ? 10 : 60) == 0 ? chance(40) - 8 : chance(Math.max(1, plain.animals()));
    }

    private int parent(int sex) {
        int n = plain.animals();
        if (n == 0 || chance(6) == 0) {
            return -1;
        }
        for (int tries = 0; tries < 20 && !(wild && chance(8) == 0); tries++) {
            int a = Math.max(0, n - 1 - chance(1 + chance(n)));
            if (plain.of(a, 2) == sex) {
                return a;
            }
        }
        return animal();
    }

    private int cows(int most) {
        int set = 0;
        for (int i = chance(most + 1); i > 0; i--) {
            for (int tries = 0; tries < 20; tries++) {
                int a = chance(Math.max(1, plain.animals()));
                if (plain.animals() > 0 && plain.of(a, 2) == 1 && (set & 1 << a) == 0 && plain.of(a, 4) == 1) {
                    set |= 1 << a;
                    break;
                }
            }
        }
        return chance(wild ? 8 : 40) == 0 ? set ^ 1 << chance(32) : set;
    }

    private long most() {
        switch (chance(6)) {
            case 0:
                return PlainHerd.ONE >> chance(12);
            case 1:
                return (PlainHerd.ONE >> chance(12)) - 1;
            case 2:
                return chance(3) - 1;
            default:
                return Long.MAX_VALUE;
        }
    }

    private void step(int run) {
        int kind = chance(3) == 0 ? 0 : chance(26);
        if (kind == 0) {
            enterOne(run);
        } else if (kind == 1) {
            correctOne(run);
        } else if (kind == 2) {
            if (chance(4) == 0) {
                int a = animal();
                check.same(run + ": cull(" + a + ")", () -> plain.cull(a), () -> herd.cull(a));
            }
        } else if (kind < 7) {
            planOne(run);
        } else {
            ask(run, kind, animal(), animal());
        }
    }

    private void enterOne(int run) {
        int sire = parent(0);
        int dam = parent(1);
        int sex = chance(30) == 0 ? chance(4) - 1 : chance(2);
        int year = chance(30) == 0 ? chance(70) - 5 : Math.min(60, 2 * plain.animals() + chance(4));
        check.same(run + ": enter(" + sire + ", " + dam + ", " + sex + ", " + year + ")",
            () -> plain.enter(sire, dam, sex, year), () -> herd.enter(sire, dam, sex, year));
    }

    private void correctOne(int run) {
        int a = animal();
        int sire = parent(0);
        int dam = parent(1);
        check.same(run + ": correct(" + a + ", " + sire + ", " + dam + ")",
            () -> plain.correct(a, sire, dam), () -> herd.correct(a, sire, dam));
    }

    private void planOne(int run) {
        int cows = cows(wild ? 6 : 5);
        int limit = chance(12) == 0 ? chance(12) - 1 : 1 + chance(3);
        long most = most();
        check.same(run + ": plan(" + cows + ", " + limit + ", " + most + ")",
            () -> plain.plan(cows, limit, most), () -> herd.plan(cows, limit, most));
        for (int cow = 0; cow < plain.animals(); cow++) {
            int c = cow;
            check.same(run + ": bull(" + c + ")", () -> plain.bull(c), () -> herd.bull(c));
        }
    }

    private void ask(int run, int kind, int a, int b) {
        String with = "(" + a + ", " + b + ")";
        switch (kind) {
            case 7 -> check.same(run + ": of" + with, () -> plain.of(a, b % 8), () -> herd.of(a, b % 8));
            case 8 -> check.same(run + ": animals()", plain::animals, herd::animals);
            case 9 -> check.same(run + ": kinship" + with, () -> plain.kinship(a, b), () -> herd.kinship(a, b));
            case 10 -> check.same(run + ": inbreeding" + with, () -> plain.inbreeding(a), () -> herd.inbreeding(a));
            case 11 -> check.same(run + ": calf" + with, () -> plain.calf(a, b), () -> herd.calf(a, b));
            case 12 -> check.same(run + ": share" + with, () -> plain.share(a, b), () -> herd.share(a, b));
            case 13 -> check.same(run + ": unknown" + with, () -> plain.unknown(a), () -> herd.unknown(a));
            case 14 -> check.same(run + ": inHerd" + with, () -> plain.inHerd(a), () -> herd.inHerd(a));
            case 15 -> check.same(run + ": herd()", plain::herd, herd::herd);
            case 16 -> check.same(run + ": ancestors" + with, () -> plain.ancestors(a), () -> herd.ancestors(a));
            case 17 -> check.same(run + ": descendants" + with, () -> plain.descendants(a), () -> herd.descendants(a));
            case 18 -> check.same(run + ": lines" + with, () -> plain.lines(a, b), () -> herd.lines(a, b));
            case 19 -> check.same(run + ": nearest" + with, () -> plain.nearest(a, b), () -> herd.nearest(a, b));
            case 20 -> check.same(run + ": closest" + with, () -> plain.closest(a), () -> herd.closest(a));
            case 21 -> check.same(run + ": bestBull" + with, () -> plain.bestBull(a), () -> herd.bestBull(a));
            case 22 -> check.same(run + ": bull" + with, () -> plain.bull(a), () -> herd.bull(a));
            case 23 -> check.same(run + ": of" + with, () -> plain.of(a, 5), () -> herd.of(a, 5));
            default -> check.same(run + ": planned()", plain::planned, herd::planned);
        }
    }
}
