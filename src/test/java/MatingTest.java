import java.util.NoSuchElementException;

/** Promises 18 to 22: closest, bestBull, plan, bull, planned. */
public final class MatingTest {
    private static final int NONE = HerdKinship.NONE;
    private static final long ONE = 1L << 50;
    private static final long ANY = Long.MAX_VALUE;
    private static final Class<IllegalArgumentException> BAD = IllegalArgumentException.class;
    private static final Class<NoSuchElementException> NOBODY = NoSuchElementException.class;
    private static final Class<UnsupportedOperationException> UNFIT = UnsupportedOperationException.class;

    private final Check check = new Check();

    public static void main(String[] args) {
        MatingTest test = new MatingTest();
        test.closest();
        test.bestBull();
        test.planFindsTheLeastSum();
        test.planBreaksTiesCowByCow();
        test.planKeepsTheLimit();
        test.planKeepsTheMost();
        test.planOfNoCows();
        test.planWithoutBulls();
        test.planRefuses();
        test.aThrowKeepsTheList();
        test.bull();
        test.plannedIsOfNow();
        test.check.end();
    }

    /** 0 bull and 1 cow, founders; 2 bull and 3 cow, theirs; 4 bull and 5 cow of 2 and 3. */
    private static HerdKinship siblings() {
        HerdKinship x = new HerdKinship();
        x.enter(NONE, NONE, 0, 0);
        x.enter(NONE, NONE, 1, 0);
        x.enter(0, 1, 0, 2);
        x.enter(0, 1, 1, 2);
        x.enter(2, 3, 0, 4);
        x.enter(2, 3, 1, 4);
        return x;
    }

    private static HerdKinship founders(int bulls, int cows) {
        HerdKinship x = new HerdKinship();
        for (int i = 0; i < bulls + cows; i++) {
            x.enter(NONE, NONE, i < bulls ? 0 : 1, 0);
        }
        return x;
    }

    private void dueBulls(String what, HerdKinship x, int... bulls) {
        for (int a = 0; a < bulls.length; a++) {
            check.due(what + ": bull(" + a + ")", bulls[a], x.bull(a));
        }
    }

    private void closest() {
        HerdKinship x = siblings();
        check.due("parents before grandparents", 2, x.closest(4));
        check.due("a child of the siblings", 4, x.closest(2));
        x.cull(2);
        check.due("one that does not live is none", 3, x.closest(4));
        check.due("but one may ask for it", 4, x.closest(2));
        HerdKinship y = founders(2, 1);
        check.due("of strangers the least number", 1, y.closest(0));
        check.due("of strangers the least number but itself", 0, y.closest(2));
        y.cull(0);
        y.cull(1);
        check.due("none but itself", NONE, y.closest(2));
        check.due("the last one of one that does not live", 2, y.closest(0));
        y.cull(2);
        check.due("none at all", NONE, y.closest(2));
        check.refuses("closest(6)", NOBODY, () -> x.closest(6));
        check.refuses("closest(NONE)", NOBODY, () -> x.closest(NONE));
    }

    private void bestBull() {
        HerdKinship x = siblings();
        check.due("least kinship", 0, x.bestBull(5));
        check.due("of equal ones the least number", 0, x.bestBull(3));
        check.due("of a bull", 0, x.bestBull(4));
        x.enter(NONE, NONE, 0, 0);
        check.due("a stranger", 6, x.bestBull(5));
        x.cull(6);
        x.cull(0);
        check.due("none that does not live", 2, x.bestBull(3));
        x.cull(2);
        check.due("the only one is a bull himself", 4, x.bestBull(4));
        x.cull(4);
        check.due("no bull lives", NONE, x.bestBull(5));
        check.refuses("bestBull(7)", NOBODY, () -> x.bestBull(7));
        check.refuses("bestBull(NONE)", NOBODY, () -> x.bestBull(NONE));
    }

    private void planFindsTheLeastSum() {
        HerdKinship x = siblings();
        check.due("one cow", ONE / 4, x.plan(1 << 5, 1, ANY));
        dueBulls("one cow", x, NONE, NONE, NONE, NONE, NONE, 0);
        check.due("two cows, one each", ONE / 4, x.plan(1 << 1 | 1 << 3, 1, ANY));
        dueBulls("two cows, one each", x, NONE, 0, NONE, 2, NONE, NONE);
        check.due("the other cow's loss is greater", ONE / 4 + ONE / 4 + ONE / 8, x.plan(0b101010, 1, ANY));
        x.enter(NONE, NONE, 0, 0);
        check.due("a stranger for all", 0, x.plan(0b101010, 3, ANY));
        dueBulls("a stranger for all", x, NONE, 0, NONE, 6, NONE, 6, NONE);
        x.cull(6);
        check.due("not one that does not live", ONE / 2, x.plan(0b101000, 2, ANY));
    }

    private void planBreaksTiesCowByCow() {
        HerdKinship x = founders(3, 5);
        check.due("strangers", 0, x.plan(0b11111000, 2, ANY));
        dueBulls("the least bulls for the least cows", x, NONE, NONE, NONE, 0, 0, 1, 1, 2);
        check.due("strangers, one bull", 0, x.plan(0b11111000, 5, ANY));
        dueBulls("one bull for all", x, NONE, NONE, NONE, 0, 0, 0, 0, 0);
        HerdKinship y = founders(2, 1);
        y.enter(0, 2, 1, 1);
        y.enter(NONE, NONE, 1, 0);
        check.due("his daughter gets the other one", 0, y.plan(0b11100, 2, ANY));
        dueBulls("a daughter in between", y, NONE, NONE, 0, 1, 0);
        HerdKinship z = founders(2, 1);
        z.enter(0, NONE, 1, 1);
        check.due("the least cow does without", 0, z.plan(0b1100, 1, ANY));
        dueBulls("the least cow does without", z, NONE, NONE, 0, 1);
        HerdKinship w = founders(2, 0);
        w.enter(0, NONE, 1, 1);
        w.enter(NONE, NONE, 1, 0);
        check.due("the sum before the least number", 0, w.plan(0b1100, 1, ANY));
        dueBulls("the sum before the least number", w, NONE, NONE, 1, 0);
    }

    private void planKeepsTheLimit() {
        HerdKinship x = founders(1, 5);
        for (int limit = 1; limit <= 8; limit++) {
            check.due("five cows of one bull, limit " + limit, limit < 5 ? NONE : 0, x.plan(0b111110, limit, ANY));
        }
        check.due("as many as the limit", 0, x.plan(0b1110, 3, ANY));
        check.due("one more than the limit", NONE, x.plan(0b11110, 3, ANY));
        HerdKinship y = founders(2, 5);
        check.due("two bulls for five", 0, y.plan(0b1111100, 3, ANY));
        dueBulls("two bulls for five", y, NONE, NONE, 0, 0, 0, 1, 1);
        check.due("two bulls for four at most", NONE, y.plan(0b1111100, 2, ANY));
    }

    private void planKeepsTheMost() {
        HerdKinship x = siblings();
        check.due("just the most", ONE / 4, x.plan(1 << 5, 1, ONE / 4));
        check.due("above the most", NONE, x.plan(1 << 5, 1, ONE / 4 - 1));
        check.due("none above 0", 0, x.plan(1 << 1, 1, 0));
        check.due("only one of two can have him", NONE, x.plan(1 << 1 | 1 << 3, 1, ONE / 4 - 1));
        HerdKinship y = founders(1, 1);
        y.enter(0, 1, 0, 1);
        y.enter(2, 1, 1, 2);
        check.due("two lists with the same sum", 3 * ONE / 8, y.plan(0b1010, 1, ANY));
        dueBulls("the preferred one", y, NONE, 0, NONE, 2);
        check.due("one of its kinships is just the most", 3 * ONE / 8, y.plan(0b1010, 1, 3 * ONE / 8));
        dueBulls("still the preferred one", y, NONE, 0, NONE, 2);
        check.due("one of its kinships is above the most", 3 * ONE / 8, y.plan(0b1010, 1, ONE / 4));
        dueBulls("the other one", y, NONE, 2, NONE, 0);
    }

    private void planOfNoCows() {
        HerdKinship x = new HerdKinship();
        check.due("no cows, no animals", 0, x.plan(0, 1, 0));
        check.due("there is a list", 0, x.planned());
        HerdKinship y = siblings();
        y.plan(1 << 5, 1, ANY);
        check.due("no cows", 0, y.plan(0, 8, ANY));
        check.due("the list that was is gone", NONE, y.bull(5));
        check.due("the new list is empty", 0, y.planned());
    }

    private void planWithoutBulls() {
        HerdKinship x = founders(1, 1);
        check.due("with a bull", 0, x.plan(2, 1, ANY));
        x.cull(0);
        check.due("the list stays", 0, x.bull(1));
        check.due("without a bull", NONE, x.plan(2, 1, ANY));
        check.due("the list is gone", NONE, x.bull(1));
        check.due("there is no list", NONE, x.planned());
    }

    private void planRefuses() {
        HerdKinship x = founders(1, 7);
        x.cull(7);
        check.refuses("limit 0", BAD, () -> x.plan(2, 0, ANY));
        check.refuses("limit 9", BAD, () -> x.plan(2, 9, ANY));
        check.refuses("limit -1", BAD, () -> x.plan(2, -1, ANY));
        check.refuses("six cows", BAD, () -> x.plan(0b1111110, 8, ANY));
        check.refuses("all bits", BAD, () -> x.plan(-1, 8, ANY));
        check.refuses("most -1", BAD, () -> x.plan(2, 1, -1));
        check.refuses("the least most", BAD, () -> x.plan(2, 1, Long.MIN_VALUE));
        check.refuses("no such animal", NOBODY, () -> x.plan(1 << 8, 1, ANY));
        check.refuses("bit 31", NOBODY, () -> x.plan(1 << 31, 1, ANY));
        check.refuses("bit 24", NOBODY, () -> x.plan(1 << 24, 1, ANY));
        check.refuses("a bull", UNFIT, () -> x.plan(1, 1, ANY));
        check.refuses("a cow and a bull", UNFIT, () -> x.plan(3, 1, ANY));
        check.refuses("a cow that does not live", UNFIT, () -> x.plan(1 << 7, 1, ANY));
        check.refuses("limit before no such animal", BAD, () -> x.plan(1 << 8, 0, ANY));
        check.refuses("most before a bull", BAD, () -> x.plan(1, 1, -1));
        check.refuses("no such animal before a bull", NOBODY, () -> x.plan(1 << 8 | 1, 1, ANY));
        check.refuses("six before no such animal", BAD, () -> x.plan(0b11111100000000, 1, ANY));
        HerdKinship y = founders(12, 12);
        check.refuses("bit 24 of a full book", NOBODY, () -> y.plan(1 << 24, 1, ANY));
        check.due("bit 23 of a full book", 0, y.plan(1 << 23, 1, ANY));
        check.due("bull(23)", 0, y.bull(23));
    }

    private void aThrowKeepsTheList() {
        HerdKinship x = siblings();
        x.plan(0b101000, 1, ANY);
        long sum = x.planned();
        check.refuses("limit", BAD, () -> x.plan(2, 0, ANY));
        check.refuses("no such animal", NOBODY, () -> x.plan(1 << 6, 1, ANY));
        check.refuses("a bull", UNFIT, () -> x.plan(1, 1, ANY));
        check.due("planned() stays", sum, x.planned());
        dueBulls("the list stays", x, NONE, NONE, NONE, 2, NONE, 0);
    }

    private void bull() {
        HerdKinship x = siblings();
        dueBulls("before any list", x, NONE, NONE, NONE, NONE, NONE, NONE);
        x.plan(1 << 3, 1, ANY);
        dueBulls("the first list", x, NONE, NONE, NONE, 0, NONE, NONE);
        x.plan(1 << 5, 1, ANY);
        dueBulls("the latest list alone", x, NONE, NONE, NONE, NONE, NONE, 0);
        x.cull(5);
        check.due("a cow that does not live any more", 0, x.bull(5));
        x.enter(NONE, NONE, 1, 0);
        check.due("a new cow", NONE, x.bull(6));
        check.refuses("bull(7)", NOBODY, () -> x.bull(7));
        check.refuses("bull(NONE)", NOBODY, () -> x.bull(NONE));
    }

    private void plannedIsOfNow() {
        HerdKinship x = siblings();
        check.due("before any list", NONE, x.planned());
        check.due("plan", ONE / 2, x.plan(0b101000, 2, ANY));
        check.due("its sum", ONE / 2, x.planned());
        x.cull(0);
        x.cull(5);
        check.due("after cullings", ONE / 2, x.planned());
        x.correct(3, NONE, NONE);
        check.due("after a correction", ONE / 8, x.planned());
        x.correct(2, NONE, NONE);
        check.due("no kin any more", 0, x.planned());
        check.due("their bulls stay", 0, x.bull(5));
    }
}
