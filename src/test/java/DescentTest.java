/** Promises 14 to 17: ancestors, descendants, lines, nearest. RefusalTest has what they refuse. */
public final class DescentTest {
    private static final int NONE = HerdKinship.NONE;

    private final Check check = new Check();

    public static void main(String[] args) {
        DescentTest test = new DescentTest();
        test.ancestors();
        test.descendants();
        test.lines();
        test.nearest();
        test.check.end();
    }

    /**
     * 0 bull and 1 cow, founders; 2 bull and 3 cow, theirs; 4 bull and 5 cow of 2 and 3; 6 bull of 4
     * and 1; 7 a cow without parents; 8 cow of 6 and 7; 9 cow of no known sire and 5.
     */
    private static HerdKinship family() {
        return Books.siblings().enter(4, 1, 0, 6).cow(0).enter(6, 7, 1, 8).enter(NONE, 5, 1, 8).program();
    }

    private void ancestors() {
        HerdKinship x = family();
        check.due("of a founder", 0, x.ancestors(0));
        check.due("parents", Books.set(0, 1), x.ancestors(3));
        check.due("all up the lines", Books.set(0, 1, 2, 3, 4), x.ancestors(6));
        check.due("both sides", Books.set(0, 1, 2, 3, 4, 6, 7), x.ancestors(8));
        check.due("of one parent", Books.set(0, 1, 2, 3, 5), x.ancestors(9));
        x.cull(2);
        check.due("those that do not live, too", Books.set(0, 1, 2, 3), x.ancestors(4));
    }

    private void descendants() {
        HerdKinship x = family();
        check.due("of the first", Books.set(2, 3, 4, 5, 6, 8, 9), x.descendants(0));
        check.due("of another founder", Books.set(8), x.descendants(7));
        check.due("of one in the middle", Books.set(6, 8), x.descendants(4));
        check.due("of the last", 0, x.descendants(9));
        x.cull(6);
        check.due("those that do not live, too", Books.set(6, 8), x.descendants(4));
    }

    private void lines() {
        HerdKinship x = family();
        check.due("to itself", 1, x.lines(4, 4));
        check.due("to a child", 1, x.lines(0, 2));
        check.due("to a grandchild", 2, x.lines(0, 4));
        check.due("of two lengths", 3, x.lines(1, 6));
        check.due("of one length", 2, x.lines(0, 6));
        check.due("by one parent", 2, x.lines(1, 9));
        check.due("up instead of down", 0, x.lines(6, 1));
        check.due("to a stranger", 0, x.lines(7, 9));
        check.due("to a sibling", 0, x.lines(4, 5));
        for (int a = 0; a < 10; a++) {
            check.due("to itself " + a, 1, x.lines(a, a));
        }
        HerdKinship y = Books.founders(1, 1).enter(0, 1, 1, 1).enter(0, 2, 1, 2).enter(0, 3, 1, 3).program();
        check.due("one line of each length from the sire of all", 3, y.lines(0, 4));
        check.due("one line from the dam", 1, y.lines(1, 4));
    }

    private void nearest() {
        HerdKinship x = family();
        check.due("of full siblings", Books.set(2, 3), x.nearest(4, 5));
        check.due("of one with itself", Books.set(4), x.nearest(4, 4));
        check.due("of one with its ancestor", Books.set(2), x.nearest(8, 2));
        check.due("the other way round", Books.set(2), x.nearest(2, 8));
        check.due("of strangers", 0, x.nearest(7, 6));
        check.due("of founders", 0, x.nearest(0, 1));
        check.due("not the farther line of one that is nearer, too", Books.set(2, 3), x.nearest(6, 9));
        check.due("of siblings, founders", Books.set(0, 1), x.nearest(2, 3));
        HerdKinship y = Books.founders(1, 2).enter(0, 1, 0, 2).enter(0, 2, 1, 2).program();
        check.due("of half siblings", Books.set(0), y.nearest(3, 4));
        y.cull(0);
        check.due("one that does not live, too", Books.set(0), y.nearest(3, 4));
    }
}
