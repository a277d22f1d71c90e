import java.util.NoSuchElementException;

/** Promises 14 to 17: ancestors, descendants, lines, nearest. */
public final class DescentTest {
    private static final int NONE = HerdKinship.NONE;
    private static final Class<NoSuchElementException> NOBODY = NoSuchElementException.class;

    private final Check check = new Check();

    public static void main(String[] args) {
        DescentTest test = new DescentTest();
        test.ancestors();
        test.descendants();
        test.lines();
        test.nearest();
        test.check.end();
    }

    /**
     * 0 bull and 1 cow, founders; 2 bull and 3 cow, theirs; 4 bull and 5 cow of 2 and 3; 6 bull of 4
     * and 1; 7 a cow without parents; 8 cow of 6 and 7; 9 cow of no known sire and 5.
     */
    private static HerdKinship family() {
        HerdKinship x = new HerdKinship();
        x.enter(NONE, NONE, 0, 0);
        x.enter(NONE, NONE, 1, 0);
        x.enter(0, 1, 0, 2);
        x.enter(0, 1, 1, 2);
        x.enter(2, 3, 0, 4);
        x.enter(2, 3, 1, 4);
        x.enter(4, 1, 0, 6);
        x.enter(NONE, NONE, 1, 0);
        x.enter(6, 7, 1, 8);
        x.enter(NONE, 5, 1, 8);
        return x;
    }

    private static int set(int... animals) {
        int bits = 0;
        for (int a : animals) {
            bits |= 1 << a;
        }
        return bits;
    }

    private void ancestors() {
        HerdKinship x = family();
        check.due("of a founder", 0, x.ancestors(0));
        check.due("parents", set(0, 1), x.ancestors(3));
        check.due("all up the lines", set(0, 1, 2, 3, 4), x.ancestors(6));
        check.due("both sides", set(0, 1, 2, 3, 4, 6, 7), x.ancestors(8));
        check.due("of one parent", set(0, 1, 2, 3, 5), x.ancestors(9));
        x.cull(2);
        check.due("those that do not live, too", set(0, 1, 2, 3), x.ancestors(4));
        check.refuses("ancestors(10)", NOBODY, () -> x.ancestors(10));
        check.refuses("ancestors(NONE)", NOBODY, () -> x.ancestors(NONE));
    }

    private void descendants() {
        HerdKinship x = family();
        check.due("of the first", set(2, 3, 4, 5, 6, 8, 9), x.descendants(0));
        check.due("of another founder", set(8), x.descendants(7));
        check.due("of one in the middle", set(6, 8), x.descendants(4));
        check.due("of the last", 0, x.descendants(9));
        x.cull(6);
        check.due("those that do not live, too", set(6, 8), x.descendants(4));
        check.refuses("descendants(10)", NOBODY, () -> x.descendants(10));
        check.refuses("descendants(NONE)", NOBODY, () -> x.descendants(NONE));
    }

    private void lines() {
        HerdKinship x = family();
        check.due("to itself", 1, x.lines(4, 4));
        check.due("to a child", 1, x.lines(0, 2));
        check.due("to a grandchild", 2, x.lines(0, 4));
        check.due("of two lengths", 3, x.lines(1, 6));
        check.due("of one length", 2, x.lines(0, 6));
        check.due("by one parent", 2, x.lines(1, 9));
        check.due("up instead of down", 0, x.lines(6, 1));
        check.due("to a stranger", 0, x.lines(7, 9));
        check.due("to a sibling", 0, x.lines(4, 5));
        check.refuses("lines(10, 0)", NOBODY, () -> x.lines(10, 0));
        check.refuses("lines(0, 10)", NOBODY, () -> x.lines(0, 10));
        check.refuses("lines(NONE, 0)", NOBODY, () -> x.lines(NONE, 0));
        check.refuses("lines(0, NONE)", NOBODY, () -> x.lines(0, NONE));
    }

    private void nearest() {
        HerdKinship x = family();
        check.due("of full siblings", set(2, 3), x.nearest(4, 5));
        check.due("of one with itself", set(4), x.nearest(4, 4));
        check.due("of one with its ancestor", set(2), x.nearest(8, 2));
        check.due("the other way round", set(2), x.nearest(2, 8));
        check.due("of strangers", 0, x.nearest(7, 6));
        check.due("of founders", 0, x.nearest(0, 1));
        check.due("not the farther line of one that is nearer, too", set(2, 3), x.nearest(6, 9));
        check.due("of siblings, founders", set(0, 1), x.nearest(2, 3));
        HerdKinship y = new HerdKinship();
        y.enter(NONE, NONE, 0, 0);
        y.enter(NONE, NONE, 1, 0);
        y.enter(NONE, NONE, 1, 0);
        y.enter(0, 1, 0, 2);
        y.enter(0, 2, 1, 2);
        check.due("of half siblings", set(0), y.nearest(3, 4));
        y.cull(0);
        check.due("one that does not live, too", set(0), y.nearest(3, 4));
        check.refuses("nearest(10, 0)", NOBODY, () -> x.nearest(10, 0));
        check.refuses("nearest(0, 10)", NOBODY, () -> x.nearest(0, 10));
        check.refuses("nearest(NONE, 0)", NOBODY, () -> x.nearest(NONE, 0));
    }
}
