/** What the document says of a later state: after correct, cull, a further plan and a further animal. */
public final class LaterTest {
    private static final int NONE = HerdKinship.NONE;
    private static final long ONE = 1L << 50;
    private static final long ANY = Long.MAX_VALUE;

    private final Check check = new Check();
    private final Whole whole = new Whole(check);

    public static void main(String[] args) {
        LaterTest test = new LaterTest();
        test.livesUntilCulled();
        test.culledForGood();
        test.cullTakesFromTheLivingAlone();
        test.culledOnesMayBeParents();
        test.numbersAreNotUsedAgain();
        test.founderNoMore();
        test.founderByCorrection();
        test.oneParentIsTakenAway();
        test.correctionGoesDownTheLines();
        test.correctionMovesTheChoices();
        test.correctedYearAndSexStay();
        test.plannedIsOfNow();
        test.plannedAfterCulling();
        test.listStaysOverOtherCalls();
        test.furtherPlanReplaces();
        test.listThatWasIsGone();
        test.refusedPlanKeepsTheList();
        test.planIsOfNow();
        test.wholeBooksAfterChanges();
        test.check.end();
    }

    /** "It LIVES until it is culled." */
    private void livesUntilCulled() {
        HerdKinship x = Books.siblings().program();
        check.due("it lives", 1, x.of(5, 4));
        x.correct(5, NONE, NONE);
        check.due("it lives after correct", 1, x.of(5, 4));
        x.plan(1 << 5, 1, ANY);
        check.due("it lives after plan", 1, x.of(5, 4));
        x.cull(4);
        check.due("it lives after another's culling", 1, x.of(5, 4));
        x.enter(NONE, 5, 0, 60);
        check.due("it lives after its calf", 1, x.of(5, 4));
        x.cull(5);
        check.due("it was culled", 0, x.of(5, 4));
        check.due("its calf lives", 1, x.of(6, 4));
    }

    private void culledForGood() {
        HerdKinship x = Books.siblings().cull(3).program();
        x.correct(3, 0, NONE);
        check.due("not after correct", 0, x.of(3, 4));
        x.enter(2, 3, 1, 60);
        check.due("not after a calf", 0, x.of(3, 4));
        x.plan(1 << 6, 1, ANY);
        check.due("not after plan", 0, x.of(3, 4));
        check.refuses("a second culling", IllegalStateException.class, () -> x.cull(3));
        check.due("not after a refusal", 0, x.of(3, 4));
        check.due("those that live", 5, x.cull(0));
        check.due("one fewer", 4, x.cull(6));
    }

    private void cullTakesFromTheLivingAlone() {
        HerdKinship x = Books.siblings().program();
        check.due("herd before", 3 * ONE + 2 * (ONE / 8) + 8 * (ONE / 4) + ONE / 4 + 5 * (3 * ONE / 8), x.herd());
        x.cull(2);
        check.due("herd without 2", 2 * ONE + ONE / 2 + ONE / 4 + 6 * (ONE / 4) + 3 * (3 * ONE / 8), x.herd());
        check.due("inHerd without 2", ONE + 3 * (ONE / 2), x.inHerd(0));
        check.due("kinship stays", 3 * ONE / 8, x.kinship(2, 4));
        check.due("inbreeding stays", ONE / 4, x.inbreeding(4));
        check.due("calf of one that is culled", ONE / 4, x.calf(2, 3));
        check.due("share in one that is culled", ONE / 2, x.share(0, 2));
        check.due("ancestors stay", Books.set(0, 1, 2, 3), x.ancestors(4));
        check.due("descendants stay", Books.set(4, 5), x.descendants(2));
        check.due("lines stay", 1, x.lines(2, 4));
        check.due("nearest stay", Books.set(2, 3), x.nearest(4, 5));
        check.due("sire stays", 2, x.of(4, 0));
        check.due("depth stays", 2, x.of(4, 5));
        check.due("animals() stay", 6, x.animals());
        x.cull(0);
        check.due("share of a founder that is culled", ONE / 2, x.share(0, 5));
        check.due("inHerd of a founder that is culled", 3 * (ONE / 2), x.inHerd(0));
    }

    private void culledOnesMayBeParents() {
        HerdKinship x = Books.siblings().cull(0).cull(1).program();
        check.due("parents that are culled", 6, x.enter(0, 1, 1, 9));
        check.due("a sire that is culled", 0, x.correct(5, 0, 3));
        check.due("a dam that is culled", 0, x.correct(4, 2, 1));
        check.due("the sire", 0, x.of(5, 0));
        check.due("the dam", 1, x.of(4, 1));
        check.due("parents that are culled both", 1, x.correct(5, 0, 1));
    }

    /** "numbers from 0 on in the order in which they were entered" */
    private void numbersAreNotUsedAgain() {
        HerdKinship x = Books.founders(1, 1).program();
        x.cull(1);
        check.due("the next number", 2, x.enter(0, 1, 0, 1));
        x.cull(0);
        x.cull(2);
        check.due("the number behind it", 3, x.enter(NONE, NONE, 1, 0));
        check.due("animals()", 4, x.animals());
        check.due("the first stays what it was", 0, x.of(0, 2));
    }

    /** "A FOUNDER is one of which neither is known." */
    private void founderNoMore() {
        HerdKinship x = Script.empty().bull(0).cow(0).bull(1).enter(2, 1, 1, 2).program();
        check.due("share of a founder", ONE / 2, x.share(2, 3));
        x.correct(2, 0, NONE);
        check.refuses("with a sire it is none", UnsupportedOperationException.class, () -> x.share(2, 3));
        check.refuses("with a sire it is none", UnsupportedOperationException.class, () -> x.inHerd(2));
        check.due("its sire's share", ONE / 4, x.share(0, 3));
        check.due("what is not known", ONE / 4, x.unknown(3));
        check.due("its depth", 1, x.of(2, 5));
        x.correct(2, NONE, 1);
        check.refuses("with a dam it is none", UnsupportedOperationException.class, () -> x.share(2, 3));
        check.refuses("with a dam it is none", UnsupportedOperationException.class, () -> x.inHerd(2));
        check.due("its dam's share", ONE / 2 + ONE / 4, x.share(1, 3));
        x.correct(2, NONE, NONE);
        check.due("a founder again", ONE / 2, x.share(2, 3));
        check.due("inHerd again", ONE + ONE / 2, x.inHerd(2));
        check.due("all is known again", 0, x.unknown(3));
    }

    private void founderByCorrection() {
        HerdKinship x = Books.siblings().program();
        check.refuses("no founder yet", UnsupportedOperationException.class, () -> x.inHerd(3));
        x.correct(3, NONE, NONE);
        check.due("a founder now", ONE + 2 * (ONE / 2), x.inHerd(3));
        check.due("its share", ONE / 2, x.share(3, 5));
        check.due("the shares of the others", ONE / 4, x.share(0, 5));
        check.due("nothing is unknown", 0, x.unknown(5));
        check.due("depth", 0, x.of(3, 5));
        check.due("no ancestors", 0, x.ancestors(3));
        check.due("not among the descendants", Books.set(2, 4, 5), x.descendants(0));
    }

    private void oneParentIsTakenAway() {
        HerdKinship x = Books.siblings().program();
        x.correct(4, 2, NONE);
        check.due("dam", NONE, x.of(4, 1));
        check.due("sire", 2, x.of(4, 0));
        check.due("inbreeding of one that is not known", 0, x.inbreeding(4));
        check.due("kinship with itself", ONE / 2, x.kinship(4, 4));
        check.due("kinship with the sire", ONE / 4, x.kinship(4, 2));
        check.due("what is not known", ONE / 2, x.unknown(4));
        check.due("share", ONE / 4, x.share(1, 4));
        check.due("depth", 2, x.of(4, 5));
        check.due("lines", 1, x.lines(0, 4));
        x.correct(4, NONE, 3);
        check.due("sire", NONE, x.of(4, 0));
        check.due("dam", 3, x.of(4, 1));
        check.due("nearest", Books.set(3), x.nearest(4, 5));
    }

    /** 3 gets other parents: all that is told of its children is another. */
    private void correctionGoesDownTheLines() {
        HerdKinship x = Books.siblings().enter(4, 5, 0, 6).program();
        x.correct(3, NONE, NONE);
        check.due("kinship of the former siblings", 0, x.kinship(2, 3));
        check.due("inbreeding of 4", 0, x.inbreeding(4));
        check.due("inbreeding of 6", ONE / 4, x.inbreeding(6));
        check.due("kinship of 6 with itself", ONE / 2 + ONE / 8, x.kinship(6, 6));
        check.due("kinship of 6 with 0", ONE / 8, x.kinship(6, 0));
        check.due("kinship of 0 with 6", ONE / 8, x.kinship(0, 6));
        check.due("calf of 6 and 0", ONE / 8, x.calf(6, 0));
        check.due("lines from 0 to 6", 2, x.lines(0, 6));
        check.due("lines from 3 to 6", 2, x.lines(3, 6));
        x.correct(2, NONE, NONE);
        check.due("depth of 6", 2, x.of(6, 5));
        check.due("ancestors of 6", Books.set(2, 3, 4, 5), x.ancestors(6));
        check.due("descendants of 0", 0, x.descendants(0));
        check.due("lines from 0 to 6", 0, x.lines(0, 6));
        check.due("nearest of 6 and 0", 0, x.nearest(6, 0));
    }

    private void correctionMovesTheChoices() {
        HerdKinship x = Books.siblings().program();
        check.due("bestBull(5)", 0, x.bestBull(5));
        check.due("closest(1)", 2, x.closest(1));
        x.correct(2, NONE, NONE);
        check.due("closest(1) then", 3, x.closest(1));
        check.due("bestBull(3) then", 2, x.bestBull(3));
        x.correct(5, 0, 1);
        check.due("bestBull(5) then", 2, x.bestBull(5));
        check.due("closest(5) then", 0, x.closest(5));
        x.correct(5, NONE, NONE);
        check.due("bestBull(5) of a stranger", 0, x.bestBull(5));
        check.due("closest(5) of a stranger", 0, x.closest(5));
    }

    private void correctedYearAndSexStay() {
        HerdKinship x = Books.siblings().program();
        x.correct(5, 0, 1);
        int[] due = {0, 1, 1, 4, 1, 1};
        for (int what = 0; what < 6; what++) {
            check.due("of(5, " + what + ")", due[what], x.of(5, what));
        }
        check.due("animals() stay", 6, x.animals());
    }

    /** "The sum of the kinships in the latest list, as they are now" */
    private void plannedIsOfNow() {
        HerdKinship x = Books.siblings().program();
        check.due("plan", ONE / 2, x.plan(Books.set(3, 5), 2, ONE / 4));
        check.due("planned", ONE / 2, x.planned());
        x.correct(3, NONE, NONE);
        check.due("the cow's parents are others", ONE / 8, x.planned());
        x.correct(2, NONE, NONE);
        check.due("no kin any more", 0, x.planned());
        x.correct(5, 0, NONE);
        check.due("he is her sire now", ONE / 4, x.planned());
        x.correct(3, 0, NONE);
        x.correct(5, 0, 3);
        check.due("above the most of the plan", ONE / 4 + 3 * ONE / 8, x.planned());
        check.due("bull(3)", 0, x.bull(3));
        check.due("bull(5)", 0, x.bull(5));
        HerdKinship y = Books.founders(2, 1).bull(5).cull(0).cull(1).program();
        check.due("a stranger", 0, y.plan(1 << 2, 1, 0));
        y.correct(3, NONE, 2);
        check.due("the bull is her son now", ONE / 4, y.planned());
    }

    private void plannedAfterCulling() {
        HerdKinship x = Books.siblings().program();
        x.plan(Books.set(3, 5), 1, ANY);
        check.due("bull(3)", 2, x.bull(3));
        check.due("bull(5)", 0, x.bull(5));
        x.cull(0);
        x.cull(5);
        x.cull(2);
        check.due("planned", ONE / 2, x.planned());
        check.due("a bull that is culled", 2, x.bull(3));
        check.due("a cow and a bull that are culled", 0, x.bull(5));
        x.correct(3, NONE, NONE);
        check.due("as they are now", ONE / 8, x.planned());
    }

    private void listStaysOverOtherCalls() {
        HerdKinship x = Books.siblings().program();
        x.plan(1 << 3, 1, ANY);
        check.due("a better bull comes", 6, x.enter(NONE, NONE, 0, 0));
        check.due("she keeps hers", 0, x.bull(3));
        check.due("planned", ONE / 4, x.planned());
        check.due("a new cow", 7, x.enter(0, 1, 1, 60));
        check.due("she has none", NONE, x.bull(7));
        check.due("planned", ONE / 4, x.planned());
        x.bestBull(3);
        x.closest(3);
        x.herd();
        check.due("asking changes nothing", ONE / 4, x.planned());
    }

    /** "The bull of a cow in the latest list" */
    private void furtherPlanReplaces() {
        HerdKinship x = Books.founders(2, 3).program();
        x.plan(Books.set(2, 3), 1, ANY);
        check.due("bull(2) at first", 0, x.bull(2));
        check.due("bull(3) at first", 1, x.bull(3));
        x.plan(Books.set(3, 4), 1, ANY);
        check.due("bull(2) then", NONE, x.bull(2));
        check.due("bull(3) then", 0, x.bull(3));
        check.due("bull(4) then", 1, x.bull(4));
        x.plan(0, 1, ANY);
        check.due("bull(3) of no cows", NONE, x.bull(3));
        check.due("bull(4) of no cows", NONE, x.bull(4));
        check.due("planned of no cows", 0, x.planned());
    }

    /** "NONE when there is none (the list that was is gone then, too)" */
    private void listThatWasIsGone() {
        HerdKinship x = Books.siblings().program();
        check.due("a list", ONE / 4, x.plan(1 << 5, 1, ANY));
        check.due("none", NONE, x.plan(1 << 3, 1, 0));
        check.due("planned", NONE, x.planned());
        for (int a = 0; a < 6; a++) {
            check.due("bull(" + a + ")", NONE, x.bull(a));
        }
        x.correct(3, NONE, NONE);
        check.due("it does not come back", NONE, x.planned());
        check.due("bull(5)", NONE, x.bull(5));
        check.due("a list again", 0, x.plan(1 << 3, 1, 0));
        check.due("planned again", 0, x.planned());
        check.due("bull(3) again", 0, x.bull(3));
    }

    private void refusedPlanKeepsTheList() {
        HerdKinship x = Books.siblings().cull(4).program();
        x.plan(Books.set(3, 5), 1, ANY);
        check.refuses("limit", IllegalArgumentException.class, () -> x.plan(1 << 1, 0, ANY));
        check.refuses("most", IllegalArgumentException.class, () -> x.plan(1 << 1, 1, -1));
        check.refuses("no such animal", java.util.NoSuchElementException.class, () -> x.plan(1 << 6, 1, ANY));
        check.refuses("no living female", UnsupportedOperationException.class, () -> x.plan(1 << 1 | 1 << 4, 1, ANY));
        check.due("planned", ONE / 2, x.planned());
        check.due("bull(1)", NONE, x.bull(1));
        check.due("bull(3)", 2, x.bull(3));
        check.due("bull(5)", 0, x.bull(5));
        HerdKinship y = Books.siblings().program();
        y.plan(1 << 5, 1, 0);
        check.refuses("limit", IllegalArgumentException.class, () -> y.plan(0, 9, ANY));
        check.due("no list before, none then", NONE, y.planned());
    }

    /** The same plan is another one after a correction and after a culling. */
    private void planIsOfNow() {
        HerdKinship x = Books.siblings().program();
        check.due("0 and 2 are a quarter to 3", ONE / 4, x.plan(1 << 3, 1, ANY));
        check.due("the least number", 0, x.bull(3));
        x.correct(2, NONE, NONE);
        check.due("2 is a stranger", 0, x.plan(1 << 3, 1, 0));
        check.due("the stranger", 2, x.bull(3));
        x.cull(2);
        check.due("the stranger is culled", NONE, x.plan(1 << 3, 1, 0));
        check.due("a quarter again", ONE / 4, x.plan(1 << 3, 1, ANY));
        check.due("0 again", 0, x.bull(3));
        check.due("a new stranger", 6, x.enter(NONE, NONE, 0, 0));
        check.due("is the best", 0, x.plan(1 << 3, 1, ANY));
        check.due("the new stranger", 6, x.bull(3));
        x.correct(5, NONE, NONE);
        x.correct(3, NONE, NONE);
        check.due("all are strangers", 0, x.plan(Books.set(3, 5), 2, 0));
        check.due("the least number again", 0, x.bull(3));
    }

    private void wholeBooksAfterChanges() {
        for (int a = 0; a < 13; a++) {
            changeWhole("family", Books.family(), "correct", a, NONE, NONE);
            changeWhole("family", Books.family(), "correct", a, a > 0 ? 0 : NONE, a > 1 ? 1 : NONE);
            changeWhole("family", Books.family(), "correct", a, 2, 3);
            changeWhole("family", Books.family(), "cull", a);
            changeWhole("family", Books.family(), "plan", 1 << a, 1, ANY);
        }
        for (int a = 0; a < 24; a++) {
            changeWhole("full", Books.full(), "correct", a, NONE, NONE);
            changeWhole("full", Books.full(), "cull", a);
        }
        changeWhole("family", Books.family(), "enter", 4, 1, 0, 10);
        changeWhole("family", Books.family(), "enter", 9, 8, 1, 60);
        changeWhole("family", Books.family(), "plan", Books.set(1, 7, 8, 10), 2, ANY);
        changeWhole("full", Books.full(), "plan", Books.set(1, 5, 8, 20, 23), 1, ANY);
        changeWhole("full", Books.full(), "plan", Books.set(8, 20, 23), 1, 0);
        changeWhole("deep", Books.deep(), "correct", 2, NONE, NONE);
        changeWhole("deep", Books.deep(), "correct", 12, 0, 1);
        changeWhole("deep", Books.deep(), "correct", 23, 0, 1);
    }

    private void changeWhole(String what, Script book, String name, long... arguments) {
        whole.isAsPlainAfter(what, book, new NamedCall(name, arguments));
    }
}
