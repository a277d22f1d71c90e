/** Promises 7 to 13: kinship, inbreeding, calf, share, unknown, inHerd, herd. RefusalTest has what they refuse. */
public final class KinshipTest {
    private static final int NONE = HerdKinship.NONE;
    private static final long ONE = 1L << 50;

    private final Check check = new Check();

    public static void main(String[] args) {
        KinshipTest test = new KinshipTest();
        test.kinship();
        test.kinshipOfTheUnknown();
        test.kinshipInWholeParts();
        test.inbreeding();
        test.calf();
        test.share();
        test.unknown();
        test.inHerd();
        test.herd();
        test.check.end();
    }

    /**
     * 0 bull and 1 cow, founders; 2 bull and 3 cow, theirs; 4 another bull; 5 cow of 4 and 1, half
     * sister of 2 and 3; 6 bull of 2 and 3; 7 cow of 6 and no known dam; 8 bull of 6 and 7.
     */
    private static HerdKinship family() {
        Script book = Books.founders(1, 1).enter(0, 1, 0, 2).enter(0, 1, 1, 2).bull(0).enter(4, 1, 1, 3);
        return book.enter(2, 3, 0, 4).enter(6, NONE, 1, 6).enter(6, 7, 0, 8).program();
    }

    private void kinship() {
        HerdKinship x = family();
        check.due("a founder with itself", ONE / 2, x.kinship(0, 0));
        check.due("two founders", 0, x.kinship(0, 1));
        check.due("parent and child", ONE / 4, x.kinship(0, 2));
        check.due("child and parent", ONE / 4, x.kinship(2, 0));
        check.due("full siblings", ONE / 4, x.kinship(2, 3));
        check.due("half siblings", ONE / 8, x.kinship(3, 5));
        check.due("an inbred one with itself", ONE / 2 + ONE / 8, x.kinship(6, 6));
        check.due("an inbred one with its sire", (ONE / 2 + ONE / 4) / 2, x.kinship(6, 2));
        check.due("an inbred one with its grandsire", ONE / 4, x.kinship(6, 0));
        check.due("one with a sire alone, with him", (ONE / 2 + ONE / 8) / 2, x.kinship(7, 6));
        check.due("one with a sire alone, with itself", ONE / 2, x.kinship(7, 7));
        check.due("strangers", 0, x.kinship(4, 8));
        x.cull(2);
        check.due("one that does not live", ONE / 4, x.kinship(2, 3));
    }

    /** "Whatever is asked of one that is not known is 0." */
    private void kinshipOfTheUnknown() {
        HerdKinship x = Books.founders(1, 1).enter(0, NONE, 0, 1).enter(NONE, 1, 1, 1).enter(2, 3, 1, 2).program();
        check.due("two with no parent in common", 0, x.kinship(2, 3));
        check.due("with its sire", ONE / 4, x.kinship(2, 0));
        check.due("with its dam", ONE / 4, x.kinship(1, 3));
        check.due("with a sire's mate", 0, x.kinship(2, 1));
        check.due("inbreeding without a dam", 0, x.inbreeding(2));
        check.due("inbreeding without a sire", 0, x.inbreeding(3));
        check.due("inbreeding of their calf", 0, x.inbreeding(4));
        check.due("their calf with its grandsire", ONE / 8, x.kinship(4, 0));
        check.due("share by the sire", ONE / 4, x.share(0, 4));
        check.due("what is not known", ONE / 2, x.unknown(4));
        HerdKinship y = Books.founders(0, 0).bull(0).enter(0, NONE, 0, 1).enter(0, NONE, 1, 1).enter(1, 2, 0, 2).program();
        check.due("two unknown dams are not one", ONE / 8, y.kinship(1, 2));
        check.due("inbreeding by the sire alone", ONE / 8, y.inbreeding(3));
    }

    /** "(All this is in whole parts.)": of all that 24 animals can be, nothing is lost. */
    private void kinshipInWholeParts() {
        Script sires = Books.oneBull();
        for (int a = 1; a < 24; a++) {
            sires = sires.enter(a - 1, NONE, 0, a);
        }
        HerdKinship x = sires.program();
        for (int a = 0; a < 24; a++) {
            check.due("kinship(0, " + a + ")", ONE >> (a + 1), x.kinship(0, a));
            check.due("kinship(" + a + ", 0)", ONE >> (a + 1), x.kinship(a, 0));
            check.due("share(0, " + a + ")", ONE >> a, x.share(0, a));
            check.due("unknown(" + a + ")", ONE - (ONE >> a), x.unknown(a));
        }
        // Siblings mated for eleven generations: F(t) = (1 + 2 F(t - 1) + F(t - 2)) / 4.
        Script pairs = Books.founders(1, 1);
        for (int a = 2; a < 24; a++) {
            int pair = a - a % 2;
            pairs = pairs.enter(pair - 2, pair - 1, a % 2, pair);
        }
        HerdKinship y = pairs.program();
        long before = 0;
        long last = 0;
        for (int a = 4; a < 24; a += 2) {
            long next = (ONE + 2 * last + before) / 4;
            check.due("inbreeding(" + a + ")", next, y.inbreeding(a));
            check.due("inbreeding(" + (a + 1) + ")", next, y.inbreeding(a + 1));
            check.due("kinship of " + a + " with itself", (ONE + next) / 2, y.kinship(a, a));
            before = last;
            last = next;
        }
    }

    private void inbreeding() {
        HerdKinship x = family();
        check.due("a founder", 0, x.inbreeding(0));
        check.due("of strangers", 0, x.inbreeding(2));
        check.due("of siblings", ONE / 4, x.inbreeding(6));
        check.due("of one parent", 0, x.inbreeding(7));
        check.due("of father and daughter", ONE / 4 + ONE / 16, x.inbreeding(8));
    }

    private void calf() {
        HerdKinship x = family();
        check.due("of siblings", ONE / 4, x.calf(2, 3));
        check.due("of two bulls", ONE / 4, x.calf(0, 2));
        check.due("of two cows", ONE / 8, x.calf(5, 3));
        check.due("of one with itself", ONE / 2 + ONE / 8, x.calf(6, 6));
        check.due("of strangers", 0, x.calf(4, 3));
        check.due("no calf was entered", 9, x.animals());
        check.due("as the real one has", x.inbreeding(8), x.calf(6, 7));
    }

    private void share() {
        HerdKinship x = family();
        check.due("in itself", ONE, x.share(0, 0));
        check.due("in another founder", 0, x.share(0, 1));
        check.due("in a founder with a greater number", 0, x.share(0, 4));
        check.due("in a child", ONE / 2, x.share(0, 2));
        check.due("by two lines", ONE / 2, x.share(0, 6));
        check.due("with one parent", ONE / 4, x.share(0, 7));
        check.due("by lines of two lengths", ONE / 4 + ONE / 8, x.share(1, 8));
        check.due("in one with a less number", 0, x.share(4, 3));
        check.due("again after another founder", ONE / 2, x.share(0, 2));
        check.due("in a stranger", 0, x.share(0, 5));
    }

    private void unknown() {
        HerdKinship x = family();
        check.due("of a founder", 0, x.unknown(4));
        check.due("of one with both parents", 0, x.unknown(6));
        check.due("of one with one parent", ONE / 2, x.unknown(7));
        check.due("up the lines", ONE / 4, x.unknown(8));
        x.enter(NONE, 7, 0, 9);
        check.due("both ways", ONE / 2 + ONE / 4, x.unknown(9));
        check.due("all shares are one", ONE, x.share(0, 9) + x.share(1, 9) + x.share(4, 9) + x.unknown(9));
    }

    private void inHerd() {
        HerdKinship x = family();
        long of0 = ONE + 3 * (ONE / 2) + ONE / 4 + (ONE / 2 + ONE / 4) / 2;
        check.due("of the first", of0, x.inHerd(0));
        check.due("of another one", ONE + ONE / 2, x.inHerd(4));
        x.cull(0);
        check.due("without itself", of0 - ONE, x.inHerd(0));
        x.cull(6);
        check.due("without a grandson", of0 - ONE - ONE / 2, x.inHerd(0));
        x.cull(4);
        x.cull(5);
        check.due("none is left", 0, x.inHerd(4));
    }

    private void herd() {
        HerdKinship x = new HerdKinship();
        check.due("nobody", 0, x.herd());
        x.enter(NONE, NONE, 0, 0);
        check.due("one", ONE / 2, x.herd());
        x.enter(NONE, NONE, 1, 0);
        x.enter(0, 1, 0, 2);
        check.due("parents and child", 3 * (ONE / 2) + 2 * (ONE / 4), x.herd());
        x.cull(0);
        check.due("without the sire", 2 * (ONE / 2) + ONE / 4, x.herd());
        x.cull(1);
        x.cull(2);
        check.due("none lives", 0, x.herd());
        HerdKinship y = family();
        long whole = y.herd();
        y.cull(8);
        long with8 = y.kinship(8, 8);
        for (int a = 0; a < 8; a++) {
            with8 += y.kinship(a, 8);
        }
        check.due("without the last", whole - with8, y.herd());
    }
}
