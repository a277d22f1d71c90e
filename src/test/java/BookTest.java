import java.util.NoSuchElementException;

/** Promises 1 to 6: a new object, enter, correct, cull, of, animals. */
public final class BookTest {
    private static final int NONE = HerdKinship.NONE;
    private static final Class<IllegalArgumentException> BAD = IllegalArgumentException.class;
    private static final Class<NoSuchElementException> NOBODY = NoSuchElementException.class;
    private static final Class<UnsupportedOperationException> UNFIT = UnsupportedOperationException.class;
    private static final Class<IllegalStateException> STATE = IllegalStateException.class;

    private final Check check = new Check();

    public static void main(String[] args) {
        BookTest test = new BookTest();
        test.newObject();
        test.enterAnswersNumbers();
        test.enterRefuses();
        test.enterPrefersTheFirstException();
        test.enterWhenFull();
        test.correctCountsChangedInbreeding();
        test.correctRenewsAllThatFollows();
        test.correctRefuses();
        test.cullCountsTheLiving();
        test.ofTellsEverything();
        test.check.end();
    }

    /** 0 and 1 founders, 2 and 3 their children, 4 and 5 theirs, 6 of 4 and 5. */
    private static HerdKinship siblings() {
        HerdKinship x = new HerdKinship();
        x.enter(NONE, NONE, 0, 0);
        x.enter(NONE, NONE, 1, 0);
        x.enter(0, 1, 0, 2);
        x.enter(0, 1, 1, 2);
        x.enter(2, 3, 0, 4);
        x.enter(2, 3, 1, 4);
        x.enter(4, 5, 0, 6);
        return x;
    }

    private void newObject() {
        HerdKinship x = new HerdKinship();
        check.due("animals() of a new object", 0, x.animals());
        check.due("planned() of a new object", NONE, x.planned());
        check.due("herd() of a new object", 0, x.herd());
        check.refuses("of(0, 0) of a new object", NOBODY, () -> x.of(0, 0));
        check.refuses("bull(0) of a new object", NOBODY, () -> x.bull(0));
    }

    private void enterAnswersNumbers() {
        HerdKinship x = new HerdKinship();
        check.due("the first", 0, x.enter(NONE, NONE, 0, 0));
        check.due("the second", 1, x.enter(NONE, NONE, 1, 59));
        check.due("last year", 2, x.enter(0, 1, 1, 60));
        check.due("without a sire", 3, x.enter(NONE, 1, 0, 60));
        check.due("without a dam", 4, x.enter(0, NONE, 0, 1));
        check.due("animals()", 5, x.animals());
        x.cull(0);
        check.due("a sire that does not live", 5, x.enter(0, NONE, 0, 1));
    }

    private void enterRefuses() {
        HerdKinship x = siblings();
        check.refuses("sex -1", BAD, () -> x.enter(NONE, NONE, -1, 0));
        check.refuses("sex 2", BAD, () -> x.enter(NONE, NONE, 2, 0));
        check.refuses("year -1", BAD, () -> x.enter(NONE, NONE, 0, -1));
        check.refuses("year 61", BAD, () -> x.enter(NONE, NONE, 0, 61));
        check.refuses("sire -2", NOBODY, () -> x.enter(-2, NONE, 0, 9));
        check.refuses("dam -2", NOBODY, () -> x.enter(NONE, -2, 0, 9));
        check.refuses("its own number as sire", NOBODY, () -> x.enter(7, NONE, 0, 9));
        check.refuses("its own number as dam", NOBODY, () -> x.enter(NONE, 7, 0, 9));
        check.refuses("the greatest int", NOBODY, () -> x.enter(Integer.MAX_VALUE, NONE, 0, 9));
        check.refuses("the least int", NOBODY, () -> x.enter(NONE, Integer.MIN_VALUE, 0, 9));
        check.refuses("a female sire", UNFIT, () -> x.enter(1, NONE, 0, 9));
        check.refuses("a male dam", UNFIT, () -> x.enter(NONE, 0, 0, 9));
        check.refuses("a sire of the same year", UNFIT, () -> x.enter(2, NONE, 0, 2));
        check.refuses("a younger sire", UNFIT, () -> x.enter(2, NONE, 0, 1));
        check.refuses("a dam of the same year", UNFIT, () -> x.enter(NONE, 3, 0, 2));
        check.refuses("a younger dam", UNFIT, () -> x.enter(NONE, 3, 0, 1));
        check.due("animals() after refusals", 7, x.animals());
        check.due("the next number after refusals", 7, x.enter(NONE, NONE, 0, 0));
    }

    private void enterPrefersTheFirstException() {
        HerdKinship x = siblings();
        check.refuses("sex and sire", BAD, () -> x.enter(99, 0, 2, 0));
        check.refuses("year and sire", BAD, () -> x.enter(99, 0, 0, 61));
        check.refuses("an unfit sire and no such dam", NOBODY, () -> x.enter(1, 99, 0, 9));
        check.refuses("no such sire and an unfit dam", NOBODY, () -> x.enter(99, 0, 0, 9));
    }

    private void enterWhenFull() {
        HerdKinship x = siblings();
        for (int a = 7; a < 24; a++) {
            check.due("up to 24", a, x.enter(0, 1, a % 2, 10));
        }
        check.refuses("the 25th", STATE, () -> x.enter(NONE, NONE, 0, 0));
        check.refuses("the 25th with a wrong sex", BAD, () -> x.enter(NONE, NONE, 2, 0));
        check.refuses("the 25th with no such sire", NOBODY, () -> x.enter(24, NONE, 0, 0));
        check.refuses("the 25th with an unfit sire", UNFIT, () -> x.enter(1, NONE, 0, 9));
        x.cull(5);
        check.refuses("the 25th after a culling", STATE, () -> x.enter(NONE, NONE, 0, 0));
        check.due("animals() when full", 24, x.animals());
        check.due("the last one is a relative", 1L << 48, x.kinship(0, 23));
    }

    private void correctCountsChangedInbreeding() {
        HerdKinship x = siblings();
        check.due("the same parents", 0, x.correct(6, 4, 5));
        check.due("of founders' children nothing but their offspring changes", 3, x.correct(3, NONE, NONE));
        check.due("back", 3, x.correct(3, 0, 1));
        check.due("one loses its dam", 1, x.correct(6, 4, NONE));
        check.due("it had none before, too", 0, x.correct(6, NONE, NONE));
        check.due("a founder gets one parent", 0, x.correct(6, 2, NONE));
        x.cull(6);
        check.due("one that does not live counts", 1, x.correct(6, 4, 5));
        check.due("animals() stay", 7, x.animals());
        check.due("it still does not live", 0, x.of(6, 4));
    }

    private void correctRenewsAllThatFollows() {
        HerdKinship x = siblings();
        x.correct(3, NONE, NONE);
        check.due("kinship of the former siblings", 0, x.kinship(2, 3));
        check.due("inbreeding of 4", 0, x.inbreeding(4));
        check.due("inbreeding of 6", 1L << 48, x.inbreeding(6));
        check.due("kinship of 6 with 0", 1L << 47, x.kinship(6, 0));
        check.due("share of the new founder", 1L << 49, x.share(3, 6));
        check.due("ancestors of 3", 0, x.ancestors(3));
        check.due("descendants of 0", 0b1110100, x.descendants(0));
        check.due("lines from 0 to 6", 2, x.lines(0, 6));
        check.due("depth of 3", 0, x.of(3, 5));
        x.correct(2, NONE, NONE);
        check.due("depth of 6", 2, x.of(6, 5));
        check.due("sire of 2", NONE, x.of(2, 0));
        check.due("sire of 4 stays", 2, x.of(4, 0));
    }

    private void correctRefuses() {
        HerdKinship x = siblings();
        x.enter(NONE, NONE, 0, 0);
        x.enter(NONE, NONE, 1, 0);
        check.refuses("no such animal", NOBODY, () -> x.correct(9, NONE, NONE));
        check.refuses("NONE as animal", NOBODY, () -> x.correct(NONE, NONE, NONE));
        check.refuses("no such sire", NOBODY, () -> x.correct(6, 9, NONE));
        check.refuses("no such dam", NOBODY, () -> x.correct(6, NONE, -2));
        check.refuses("a female sire", UNFIT, () -> x.correct(6, 5, NONE));
        check.refuses("a male dam", UNFIT, () -> x.correct(6, NONE, 4));
        check.refuses("a sire of the same year", UNFIT, () -> x.correct(4, 4, NONE));
        check.refuses("an older sire with a greater number", UNFIT, () -> x.correct(6, 7, NONE));
        check.refuses("an older dam with a greater number", UNFIT, () -> x.correct(6, NONE, 8));
        check.refuses("a dam of the same year", UNFIT, () -> x.correct(4, NONE, 5));
        check.refuses("a younger sire", UNFIT, () -> x.correct(2, 6, NONE));
        check.refuses("an unfit sire and no such dam", NOBODY, () -> x.correct(6, 5, 99));
        check.due("sire after refusals", 4, x.of(6, 0));
        check.due("dam after refusals", 5, x.of(6, 1));
        HerdKinship y = new HerdKinship();
        y.enter(NONE, NONE, 1, 5);
        y.enter(NONE, NONE, 1, 5);
        y.enter(NONE, NONE, 0, 6);
        check.refuses("a dam of the same year and a less number", UNFIT, () -> y.correct(1, NONE, 0));
        check.due("a dam of a less year", 0, y.correct(2, NONE, 1));
    }

    private void cullCountsTheLiving() {
        HerdKinship x = siblings();
        check.due("cull(3)", 6, x.cull(3));
        check.due("it does not live", 0, x.of(3, 4));
        check.due("cull(0)", 5, x.cull(0));
        check.refuses("cull(3) again", STATE, () -> x.cull(3));
        check.refuses("no such animal", NOBODY, () -> x.cull(7));
        check.refuses("NONE", NOBODY, () -> x.cull(NONE));
        check.due("animals() stay", 7, x.animals());
        check.due("the others live", 1, x.of(2, 4));
        x.enter(NONE, NONE, 0, 0);
        check.due("with a new one", 5, x.cull(1));
        HerdKinship y = new HerdKinship();
        y.enter(NONE, NONE, 0, 0);
        check.due("the last one", 0, y.cull(0));
    }

    private void ofTellsEverything() {
        HerdKinship x = siblings();
        x.enter(NONE, 3, 1, 60);
        x.enter(6, 1, 0, 50);
        int[][] due = {{NONE, NONE, 0, 0, 1, 0}, {0, 1, 1, 2, 1, 1}, {4, 5, 0, 6, 1, 3}, {NONE, 3, 1, 60, 1, 2}, {6, 1, 0, 50, 1, 4}};
        int[] animals = {0, 3, 6, 7, 8};
        for (int i = 0; i < animals.length; i++) {
            for (int what = 0; what < 6; what++) {
                check.due("of(" + animals[i] + ", " + what + ")", due[i][what], x.of(animals[i], what));
            }
        }
        check.refuses("of(0, 6)", IndexOutOfBoundsException.class, () -> x.of(0, 6));
        check.refuses("of(0, -1)", IndexOutOfBoundsException.class, () -> x.of(0, -1));
        check.refuses("of(9, 0)", NOBODY, () -> x.of(9, 0));
        check.refuses("of(NONE, 0)", NOBODY, () -> x.of(NONE, 0));
        check.refuses("of(9, 6)", NOBODY, () -> x.of(9, 6));
    }
}
