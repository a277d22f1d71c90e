import java.util.NoSuchElementException;

/** Promises 7 to 13: kinship, inbreeding, calf, share, unknown, inHerd, herd. */
public final class KinshipTest {
    private static final int NONE = HerdKinship.NONE;
    private static final long ONE = 1L << 50;
    private static final Class<NoSuchElementException> NOBODY = NoSuchElementException.class;
    private static final Class<UnsupportedOperationException> UNFIT = UnsupportedOperationException.class;

    private final Check check = new Check();

    public static void main(String[] args) {
        KinshipTest test = new KinshipTest();
        test.kinship();
        test.inbreeding();
        test.calf();
        test.deepestHerdIsExact();
        test.share();
        test.unknown();
        test.inHerd();
        test.herd();
        test.check.end();
    }

    /**
     * 0 bull and 1 cow, founders; 2 bull and 3 cow, theirs; 4 another bull; 5 cow of 4 and 1, half
     * sister of 2 and 3; 6 bull of 2 and 3; 7 cow of 6 and no known dam; 8 bull of 6 and 7.
     */
    private static HerdKinship family() {
        HerdKinship x = new HerdKinship();
        x.enter(NONE, NONE, 0, 0);
        x.enter(NONE, NONE, 1, 0);
        x.enter(0, 1, 0, 2);
        x.enter(0, 1, 1, 2);
        x.enter(NONE, NONE, 0, 0);
        x.enter(4, 1, 1, 3);
        x.enter(2, 3, 0, 4);
        x.enter(6, NONE, 1, 6);
        x.enter(6, 7, 0, 8);
        return x;
    }

    private void kinship() {
        HerdKinship x = family();
        check.due("a founder with itself", ONE / 2, x.kinship(0, 0));
        check.due("two founders", 0, x.kinship(0, 1));
        check.due("parent and child", ONE / 4, x.kinship(0, 2));
        check.due("child and parent", ONE / 4, x.kinship(2, 0));
        check.due("full siblings", ONE / 4, x.kinship(2, 3));
        check.due("half siblings", ONE / 8, x.kinship(3, 5));
        check.due("an inbred one with itself", ONE / 2 + ONE / 8, x.kinship(6, 6));
        check.due("an inbred one with its sire", (ONE / 2 + ONE / 4) / 2, x.kinship(6, 2));
        check.due("an inbred one with its grandsire", ONE / 4, x.kinship(6, 0));
        check.due("one with a sire alone, with him", (ONE / 2 + ONE / 8) / 2, x.kinship(7, 6));
        check.due("one with a sire alone, with itself", ONE / 2, x.kinship(7, 7));
        check.due("strangers", 0, x.kinship(4, 8));
        x.cull(2);
        check.due("one that does not live", ONE / 4, x.kinship(2, 3));
        check.refuses("kinship(9, 0)", NOBODY, () -> x.kinship(9, 0));
        check.refuses("kinship(0, 9)", NOBODY, () -> x.kinship(0, 9));
        check.refuses("kinship(NONE, 0)", NOBODY, () -> x.kinship(NONE, 0));
        check.refuses("kinship(0, NONE)", NOBODY, () -> x.kinship(0, NONE));
    }

    private void inbreeding() {
        HerdKinship x = family();
        check.due("a founder", 0, x.inbreeding(0));
        check.due("of strangers", 0, x.inbreeding(2));
        check.due("of siblings", ONE / 4, x.inbreeding(6));
        check.due("of one parent", 0, x.inbreeding(7));
        check.due("of father and daughter", ONE / 4 + ONE / 16, x.inbreeding(8));
        check.refuses("inbreeding(9)", NOBODY, () -> x.inbreeding(9));
        check.refuses("inbreeding(NONE)", NOBODY, () -> x.inbreeding(NONE));
    }

    private void calf() {
        HerdKinship x = family();
        check.due("of siblings", ONE / 4, x.calf(2, 3));
        check.due("of two bulls", ONE / 4, x.calf(0, 2));
        check.due("of two cows", ONE / 8, x.calf(5, 3));
        check.due("of one with itself", ONE / 2 + ONE / 8, x.calf(6, 6));
        check.due("of strangers", 0, x.calf(4, 3));
        check.due("no calf was entered", 9, x.animals());
        check.due("as the real one has", x.inbreeding(8), x.calf(6, 7));
        check.refuses("calf(9, 0)", NOBODY, () -> x.calf(9, 0));
        check.refuses("calf(0, NONE)", NOBODY, () -> x.calf(0, NONE));
    }

    /** Each of the last bull and the last cow: as deep and as inbred as 24 animals can be. */
    private void deepestHerdIsExact() {
        HerdKinship x = new HerdKinship();
        PlainHerd plain = new PlainHerd();
        int[] last = {NONE, NONE};
        for (int i = 0; i < 24; i++) {
            int sire = i < 2 ? NONE : last[0];
            int dam = i < 2 ? NONE : last[1];
            x.enter(sire, dam, i % 2, i);
            plain.enter(sire, dam, i % 2, i);
            last[i % 2] = i;
        }
        check.due("depth of the last", 22, x.of(23, 5));
        check.due("lines from the first", 17711, x.lines(0, 23));
        for (int a = 0; a < 24; a++) {
            for (int b = 0; b < 24; b++) {
                check.due("deep kinship(" + a + ", " + b + ")", plain.kinship(a, b), x.kinship(a, b));
            }
            check.due("deep share(0, " + a + ")", plain.share(0, a), x.share(0, a));
            check.due("deep shares of both in " + a, ONE, x.share(0, a) + x.share(1, a));
            check.due("deep unknown(" + a + ")", 0, x.unknown(a));
        }
        check.due("deep herd()", plain.herd(), x.herd());
        check.due("deep correct(2, 0, NONE)", plain.correct(2, 0, NONE), x.correct(2, 0, NONE));
        check.due("deep unknown(23)", plain.unknown(23), x.unknown(23));
        check.due("deep inbreeding(23)", plain.inbreeding(23), x.inbreeding(23));
    }

    private void share() {
        HerdKinship x = family();
        check.due("in itself", ONE, x.share(0, 0));
        check.due("in another founder", 0, x.share(0, 1));
        check.due("in a founder with a greater number", 0, x.share(0, 4));
        check.due("in a child", ONE / 2, x.share(0, 2));
        check.due("by two lines", ONE / 2, x.share(0, 6));
        check.due("with one parent", ONE / 4, x.share(0, 7));
        check.due("by lines of two lengths", ONE / 4 + ONE / 8, x.share(1, 8));
        check.due("in one with a less number", 0, x.share(4, 3));
        check.due("again after another founder", ONE / 2, x.share(0, 2));
        check.due("in a stranger", 0, x.share(0, 5));
        check.refuses("no founder", UNFIT, () -> x.share(2, 6));
        check.refuses("one with one parent is no founder", UNFIT, () -> x.share(7, 8));
        check.refuses("no such founder", NOBODY, () -> x.share(9, 0));
        check.refuses("no such animal", NOBODY, () -> x.share(0, 9));
        check.refuses("no founder and no such animal", NOBODY, () -> x.share(2, 9));
        check.refuses("NONE", NOBODY, () -> x.share(NONE, 0));
    }

    private void unknown() {
        HerdKinship x = family();
        check.due("of a founder", 0, x.unknown(4));
        check.due("of one with both parents", 0, x.unknown(6));
        check.due("of one with one parent", ONE / 2, x.unknown(7));
        check.due("up the lines", ONE / 4, x.unknown(8));
        x.enter(NONE, 7, 0, 9);
        check.due("both ways", ONE / 2 + ONE / 4, x.unknown(9));
        check.due("all shares are one", ONE, x.share(0, 9) + x.share(1, 9) + x.share(4, 9) + x.unknown(9));
        check.refuses("unknown(10)", NOBODY, () -> x.unknown(10));
        check.refuses("unknown(NONE)", NOBODY, () -> x.unknown(NONE));
    }

    private void inHerd() {
        HerdKinship x = family();
        long of0 = ONE + 3 * (ONE / 2) + ONE / 4 + (ONE / 2 + ONE / 4) / 2;
        check.due("of the first", of0, x.inHerd(0));
        check.due("of another one", ONE + ONE / 2, x.inHerd(4));
        x.cull(0);
        check.due("without itself", of0 - ONE, x.inHerd(0));
        x.cull(6);
        check.due("without a grandson", of0 - ONE - ONE / 2, x.inHerd(0));
        x.cull(4);
        x.cull(5);
        check.due("none is left", 0, x.inHerd(4));
        check.refuses("no founder", UNFIT, () -> x.inHerd(2));
        check.refuses("one with one parent", UNFIT, () -> x.inHerd(7));
        check.refuses("no such animal", NOBODY, () -> x.inHerd(9));
        check.refuses("NONE", NOBODY, () -> x.inHerd(NONE));
    }

    private void herd() {
        HerdKinship x = new HerdKinship();
        check.due("nobody", 0, x.herd());
        x.enter(NONE, NONE, 0, 0);
        check.due("one", ONE / 2, x.herd());
        x.enter(NONE, NONE, 1, 0);
        x.enter(0, 1, 0, 2);
        check.due("parents and child", 3 * (ONE / 2) + 2 * (ONE / 4), x.herd());
        x.cull(0);
        check.due("without the sire", 2 * (ONE / 2) + ONE / 4, x.herd());
        x.cull(1);
        x.cull(2);
        check.due("none lives", 0, x.herd());
        HerdKinship y = family();
        long whole = y.herd();
        y.cull(8);
        long with8 = y.kinship(8, 8);
        for (int a = 0; a < 8; a++) {
            with8 += y.kinship(a, 8);
        }
        check.due("without the last", whole - with8, y.herd());
    }
}
