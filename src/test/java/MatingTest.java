/** Promises 18 to 22: closest, bestBull, plan, bull, planned. RefusalTest has what they refuse. */
public final class MatingTest {
    private static final int NONE = HerdKinship.NONE;
    private static final long ONE = 1L << 50;
    private static final long ANY = Long.MAX_VALUE;

    private final Check check = new Check();

    public static void main(String[] args) {
        MatingTest test = new MatingTest();
        test.closest();
        test.bestBull();
        test.planFindsTheLeastSum();
        test.planKeepsTheLimit();
        test.planKeepsTheMost();
        test.planOfNoCows();
        test.planWithoutBulls();
        test.bull();
        test.planned();
        test.check.end();
    }

    private void dueBulls(String what, HerdKinship x, int... bulls) {
        for (int a = 0; a < bulls.length; a++) {
            check.due(what + ": bull(" + a + ")", bulls[a], x.bull(a));
        }
    }

    private void closest() {
        HerdKinship x = Books.siblings().program();
        check.due("parents before grandparents", 2, x.closest(4));
        check.due("a child of the siblings", 4, x.closest(2));
        x.cull(2);
        check.due("one that does not live is none", 3, x.closest(4));
        check.due("but one may ask for it", 4, x.closest(2));
    }

    private void bestBull() {
        HerdKinship x = Books.siblings().program();
        check.due("least kinship", 0, x.bestBull(5));
        check.due("of a bull", 0, x.bestBull(4));
        x.enter(NONE, NONE, 0, 0);
        check.due("a stranger", 6, x.bestBull(5));
        check.due("a stranger for a bull", 6, x.bestBull(2));
        x.cull(6);
        x.cull(0);
        check.due("none that does not live", 2, x.bestBull(3));
        x.cull(2);
        check.due("the only one is a bull himself", 4, x.bestBull(4));
        x.cull(5);
        check.due("one may ask for a cow that does not live", 4, x.bestBull(5));
    }

    private void planFindsTheLeastSum() {
        HerdKinship x = Books.siblings().program();
        check.due("one cow", ONE / 4, x.plan(1 << 5, 1, ANY));
        dueBulls("one cow", x, NONE, NONE, NONE, NONE, NONE, 0);
        check.due("two cows, one each", ONE / 4, x.plan(1 << 1 | 1 << 3, 1, ANY));
        dueBulls("two cows, one each", x, NONE, 0, NONE, 2, NONE, NONE);
        check.due("three cows, one each", ONE / 4 + ONE / 4 + ONE / 8, x.plan(0b101010, 1, ANY));
        dueBulls("three cows, one each", x, NONE, 0, NONE, 2, NONE, 4);
        x.enter(NONE, NONE, 0, 0);
        check.due("a stranger for all", 0, x.plan(0b101010, 3, ANY));
        dueBulls("a stranger for all", x, NONE, 0, NONE, 6, NONE, 6, NONE);
        x.cull(6);
        check.due("not one that does not live", ONE / 2, x.plan(0b101000, 2, ANY));
    }

    private void planKeepsTheLimit() {
        HerdKinship x = Books.founders(1, 5).program();
        for (int limit = 1; limit <= 8; limit++) {
            check.due("five cows of one bull, limit " + limit, limit < 5 ? NONE : 0, x.plan(0b111110, limit, ANY));
        }
        check.due("as many as the limit", 0, x.plan(0b1110, 3, ANY));
        check.due("one more than the limit", NONE, x.plan(0b11110, 3, ANY));
        HerdKinship y = Books.founders(2, 5).program();
        check.due("two bulls for five", 0, y.plan(0b1111100, 3, ANY));
        dueBulls("two bulls for five", y, NONE, NONE, 0, 0, 0, 1, 1);
        check.due("two bulls for four at most", NONE, y.plan(0b1111100, 2, ANY));
    }

    private void planKeepsTheMost() {
        HerdKinship x = Books.siblings().program();
        check.due("just the most", ONE / 4, x.plan(1 << 5, 1, ONE / 4));
        check.due("above the most", NONE, x.plan(1 << 5, 1, ONE / 4 - 1));
        check.due("none above 0", 0, x.plan(1 << 1, 1, 0));
        check.due("only one of two can have him", NONE, x.plan(1 << 1 | 1 << 3, 1, ONE / 4 - 1));
        HerdKinship y = Books.founders(1, 0).enter(0, NONE, 1, 1).enter(0, NONE, 1, 1).program();
        check.due("the sum may be above the most", ONE / 2, y.plan(0b110, 2, ONE / 4));
        check.due("each of them above the most", NONE, y.plan(0b110, 2, ONE / 4 - 1));
    }

    private void planOfNoCows() {
        HerdKinship x = new HerdKinship();
        check.due("no cows, no animals", 0, x.plan(0, 1, 0));
        check.due("there is a list", 0, x.planned());
        HerdKinship y = Books.siblings().program();
        y.plan(1 << 5, 1, ANY);
        check.due("no cows", 0, y.plan(0, 8, ANY));
        check.due("the list that was is gone", NONE, y.bull(5));
        check.due("the new list is empty", 0, y.planned());
    }

    private void planWithoutBulls() {
        HerdKinship x = Books.founders(1, 1).program();
        check.due("with a bull", 0, x.plan(2, 1, ANY));
        x.cull(0);
        check.due("the list stays", 0, x.bull(1));
        check.due("without a bull", NONE, x.plan(2, 1, ANY));
        check.due("the list is gone", NONE, x.bull(1));
        check.due("there is no list", NONE, x.planned());
    }

    private void bull() {
        HerdKinship x = Books.siblings().program();
        dueBulls("before any list", x, NONE, NONE, NONE, NONE, NONE, NONE);
        x.plan(1 << 3, 1, ANY);
        dueBulls("the first list", x, NONE, NONE, NONE, 0, NONE, NONE);
        x.plan(1 << 5, 1, ANY);
        dueBulls("the latest list alone", x, NONE, NONE, NONE, NONE, NONE, 0);
        x.cull(5);
        check.due("a cow that does not live any more", 0, x.bull(5));
        x.enter(NONE, NONE, 1, 0);
        check.due("a new cow", NONE, x.bull(6));
    }

    private void planned() {
        HerdKinship x = Books.siblings().program();
        check.due("before any list", NONE, x.planned());
        check.due("plan", ONE / 2, x.plan(0b101000, 2, ANY));
        check.due("its sum", ONE / 2, x.planned());
        check.due("its sum again", ONE / 2, x.planned());
        check.due("a further plan", 0, x.plan(1 << 1, 1, ANY));
        check.due("its sum", 0, x.planned());
    }
}
