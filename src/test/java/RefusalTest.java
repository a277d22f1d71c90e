import java.util.NoSuchElementException;

/**
 * Every reason of every exception by itself, with what is just inside the limit; several reasons at
 * once, where the first of the throws clause is due; and that no refused call changes anything.
 */
public final class RefusalTest {
    private static final int NONE = HerdKinship.NONE;
    private static final int LEAST = Integer.MIN_VALUE;
    private static final int GREATEST = Integer.MAX_VALUE;
    private static final long ANY = Long.MAX_VALUE;
    private static final Class<IllegalArgumentException> BAD = IllegalArgumentException.class;
    private static final Class<NoSuchElementException> NOBODY = NoSuchElementException.class;
    private static final Class<UnsupportedOperationException> UNFIT = UnsupportedOperationException.class;
    private static final Class<IllegalStateException> STATE = IllegalStateException.class;
    private static final Class<IndexOutOfBoundsException> OUTSIDE = IndexOutOfBoundsException.class;

    // Numbers that are no animal of a book of 13, and of one of 24; 32 and 64 would wrap round in a shift.
    private static final int[] STRANGERS_OF_13 = {LEAST, LEAST + 1, -14, -2, 13, 14, 23, 24, 32, 64, GREATEST - 1, GREATEST};
    private static final int[] STRANGERS_OF_24 = {LEAST, LEAST + 1, -24, -2, 24, 25, 31, 32, 64, GREATEST - 1, GREATEST};

    private final Check check = new Check();
    private final Whole whole = new Whole(check);
    private final Script family = Books.family();
    private final Script full = Books.full();
    private final Script founders = Books.founders(12, 12);

    public static void main(String[] args) {
        RefusalTest test = new RefusalTest();
        test.enterSexAndYear();
        test.enterNoSuchParent();
        test.enterUnfitParent();
        test.enterWhenThereAre24();
        test.enterFirstOfSeveral();
        test.correctNoSuchAnimal();
        test.correctUnfitParent();
        test.correctNumberNotLess();
        test.correctFirstOfSeveral();
        test.cull();
        test.of();
        test.questionsOfOne();
        test.questionsOfTwo();
        test.noFounder();
        test.planLimit();
        test.planMoreThanFiveCows();
        test.planMost();
        test.planNoSuchAnimal();
        test.planNoLivingFemale();
        test.planFirstOfSeveral();
        test.check.end();
    }

    private void refused(Class<? extends RuntimeException> kind, Script book, String name, long... arguments) {
        NamedCall call = new NamedCall(name, arguments);
        check.text(call.toString(), "throws." + kind.getSimpleName(), call.answerOf(book.program()));
        whole.isUnchangedBy(book, call);
    }

    private void accepted(long due, Script book, String name, long... arguments) {
        NamedCall call = new NamedCall(name, arguments);
        check.text(call.toString(), String.valueOf(due), call.answerOf(book.program()));
    }

    private void answered(Script book, String name, long... arguments) {
        NamedCall call = new NamedCall(name, arguments);
        String answer = call.answerOf(book.program());
        check.text(call.toString(), call.answerOf(book.plain()), answer);
        check.isTrue(call + " is answered", !answer.startsWith("throws."));
    }

    /** "a SEX, 0 male or 1 female, a YEAR, 0 .. 60" */
    private void enterSexAndYear() {
        for (int sex : new int[] {LEAST, -2, -1, 2, 3, GREATEST}) {
            refused(BAD, family, "enter", NONE, NONE, sex, 0);
        }
        for (int year : new int[] {LEAST, -60, -1, 61, 62, GREATEST}) {
            refused(BAD, family, "enter", NONE, NONE, 1, year);
        }
        refused(BAD, family, "enter", NONE, NONE, -1, -1);
        refused(BAD, family, "enter", 0, 1, 2, 61);
        for (int sex = 0; sex <= 1; sex++) {
            for (int year = 0; year <= 60; year++) {
                accepted(13, family, "enter", NONE, NONE, sex, year);
            }
        }
    }

    /** "NoSuchElementException (sire or dam, when not NONE)" */
    private void enterNoSuchParent() {
        for (int stranger : STRANGERS_OF_13) {
            refused(NOBODY, family, "enter", stranger, NONE, 0, 60);
            refused(NOBODY, family, "enter", NONE, stranger, 0, 60);
            refused(NOBODY, family, "enter", stranger, 1, 0, 60);
            refused(NOBODY, family, "enter", 2, stranger, 0, 60);
        }
        refused(NOBODY, family, "enter", 13, 13, 0, 60);
        refused(NOBODY, Script.empty(), "enter", 0, NONE, 0, 60);
        refused(NOBODY, Script.empty(), "enter", NONE, 0, 0, 60);
        refused(NOBODY, Books.oneBull(), "enter", 1, NONE, 0, 60);
        refused(NOBODY, Books.oneCow(), "enter", NONE, 1, 0, 60);
        accepted(13, family, "enter", NONE, NONE, 0, 60);
        accepted(13, family, "enter", 0, NONE, 0, 60);
        accepted(13, family, "enter", NONE, 12, 0, 60);
        accepted(13, family, "enter", 9, 12, 1, 60);
        accepted(1, Books.oneBull(), "enter", 0, NONE, 0, 1);
    }

    /** "UnsupportedOperationException when sire is no male or dam no female, or its year is not less" */
    private void enterUnfitParent() {
        refused(UNFIT, family, "enter", 1, NONE, 0, 60);
        refused(UNFIT, family, "enter", 12, 11, 0, 60);
        refused(UNFIT, family, "enter", NONE, 0, 0, 60);
        refused(UNFIT, family, "enter", 2, 9, 0, 60);
        refused(UNFIT, family, "enter", 4, 4, 0, 60);
        refused(UNFIT, family, "enter", 5, 5, 0, 60);
        refused(UNFIT, family, "enter", 1, 0, 0, 60);
        refused(UNFIT, family, "enter", 4, NONE, 0, 4);
        refused(UNFIT, family, "enter", 4, NONE, 0, 3);
        refused(UNFIT, family, "enter", 4, 1, 0, 4);
        refused(UNFIT, family, "enter", NONE, 5, 0, 4);
        refused(UNFIT, family, "enter", NONE, 5, 0, 0);
        refused(UNFIT, family, "enter", 0, 5, 0, 4);
        refused(UNFIT, family, "enter", NONE, 10, 0, 60);
        refused(UNFIT, family, "enter", 0, 1, 0, 0);
        accepted(13, family, "enter", 4, NONE, 0, 5);
        accepted(13, family, "enter", NONE, 5, 0, 5);
        accepted(13, family, "enter", 4, 5, 1, 5);
        accepted(13, family, "enter", 0, 1, 0, 1);
        accepted(13, family, "enter", 0, 11, 1, 60);
    }

    /** "IllegalStateException when there are 24" */
    private void enterWhenThereAre24() {
        refused(STATE, full, "enter", NONE, NONE, 0, 0);
        refused(STATE, full, "enter", NONE, NONE, 1, 60);
        refused(STATE, full, "enter", 0, 1, 1, 1);
        refused(STATE, full, "enter", 0, 23, 1, 13);
        refused(STATE, founders, "enter", 11, 23, 0, 1);
        Script culled = founders;
        for (int a = 0; a < 24; a++) {
            culled = culled.cull(a);
        }
        refused(STATE, culled, "enter", NONE, NONE, 0, 0);
        accepted(23, Books.founders(12, 11), "enter", 11, 22, 0, 1);
        accepted(22, Books.founders(12, 10), "enter", NONE, NONE, 0, 0);
    }

    private void enterFirstOfSeveral() {
        refused(BAD, family, "enter", 13, NONE, 2, 60);
        refused(BAD, family, "enter", NONE, -2, 0, 61);
        refused(BAD, family, "enter", 1, NONE, -1, 60);
        refused(BAD, family, "enter", 4, 5, 0, -1);
        refused(BAD, family, "enter", 13, 0, 2, 61);
        refused(NOBODY, family, "enter", 1, 13, 0, 60);
        refused(NOBODY, family, "enter", 13, 0, 0, 60);
        refused(NOBODY, family, "enter", 4, 13, 0, 4);
        refused(NOBODY, family, "enter", -2, 5, 0, 4);
        refused(BAD, full, "enter", NONE, NONE, 2, 0);
        refused(BAD, full, "enter", NONE, NONE, 0, 61);
        refused(BAD, full, "enter", 24, 0, 2, 61);
        refused(BAD, full, "enter", 1, NONE, 2, 60);
        refused(NOBODY, full, "enter", 24, NONE, 0, 60);
        refused(NOBODY, full, "enter", NONE, 24, 0, 60);
        refused(NOBODY, full, "enter", 1, 24, 0, 60);
        refused(NOBODY, full, "enter", 24, 0, 0, 60);
        refused(UNFIT, full, "enter", 1, NONE, 0, 60);
        refused(UNFIT, full, "enter", NONE, 0, 0, 60);
        refused(UNFIT, full, "enter", 19, NONE, 0, 11);
        refused(UNFIT, full, "enter", NONE, 23, 0, 12);
    }

    /** "NoSuchElementException (also for sire or dam, when not NONE)" */
    private void correctNoSuchAnimal() {
        for (int stranger : STRANGERS_OF_13) {
            refused(NOBODY, family, "correct", stranger, NONE, NONE);
            refused(NOBODY, family, "correct", stranger, 0, 1);
            refused(NOBODY, family, "correct", 10, stranger, NONE);
            refused(NOBODY, family, "correct", 10, 0, stranger);
        }
        for (int stranger : STRANGERS_OF_24) {
            refused(NOBODY, full, "correct", stranger, NONE, NONE);
            refused(NOBODY, full, "correct", 23, stranger, NONE);
            refused(NOBODY, full, "correct", 23, NONE, stranger);
        }
        refused(NOBODY, family, "correct", NONE, NONE, NONE);
        refused(NOBODY, Script.empty(), "correct", 0, NONE, NONE);
        refused(NOBODY, Script.empty(), "correct", NONE, NONE, NONE);
        accepted(0, Books.oneBull(), "correct", 0, NONE, NONE);
        accepted(0, family, "correct", 12, NONE, NONE);
        accepted(1, full, "correct", 23, NONE, NONE);
    }

    /** "UnsupportedOperationException when sire is no male or dam no female, its year is not less" */
    private void correctUnfitParent() {
        refused(UNFIT, family, "correct", 10, 1, NONE);
        refused(UNFIT, family, "correct", 10, 8, 7);
        refused(UNFIT, family, "correct", 10, NONE, 0);
        refused(UNFIT, family, "correct", 10, 6, 9);
        refused(UNFIT, family, "correct", 10, 7, 6);
        refused(UNFIT, family, "correct", 10, 0, 9);
        refused(UNFIT, family, "correct", 10, 7, 1);
        refused(UNFIT, family, "correct", 9, 4, 8);
        refused(UNFIT, family, "correct", 5, 4, 1);
        refused(UNFIT, family, "correct", 5, 4, NONE);
        refused(UNFIT, family, "correct", 5, 4, 3);
        refused(UNFIT, family, "correct", 2, 0, 3);
        refused(UNFIT, family, "correct", 9, NONE, 8);
        refused(UNFIT, family, "correct", 7, 6, NONE);
        refused(UNFIT, family, "correct", 7, 4, NONE);
        refused(UNFIT, family, "correct", 7, NONE, 5);
        refused(UNFIT, family, "correct", 12, 0, NONE);
        refused(UNFIT, family, "correct", 12, NONE, 1);
        refused(UNFIT, family, "correct", 12, NONE, 10);
        Script years = Script.empty().bull(3).cow(4).cow(5);
        accepted(0, years, "correct", 2, 0, 1);
        refused(UNFIT, years, "correct", 1, 0, 0);
        Script sameYear = Script.empty().bull(5).cow(5).cow(5);
        refused(UNFIT, sameYear, "correct", 2, 0, NONE);
        refused(UNFIT, sameYear, "correct", 2, NONE, 1);
    }

    /** "or its number is not less" */
    private void correctNumberNotLess() {
        refused(UNFIT, family, "correct", 2, 6, NONE);
        refused(UNFIT, family, "correct", 5, 6, 3);
        refused(UNFIT, family, "correct", 2, 0, 7);
        refused(UNFIT, family, "correct", 9, 4, 12);
        refused(UNFIT, family, "correct", 10, NONE, 11);
        refused(UNFIT, family, "correct", 4, 4, NONE);
        refused(UNFIT, family, "correct", 5, NONE, 5);
        refused(UNFIT, full, "correct", 21, 22, NONE);
        Script bulls = Script.empty().bull(1).bull(5).bull(0);
        refused(UNFIT, bulls, "correct", 1, 2, NONE);
        refused(UNFIT, bulls, "correct", 1, 1, NONE);
        accepted(0, bulls, "correct", 1, 0, NONE);
        Script cows = Script.empty().cow(1).cow(5).cow(0);
        refused(UNFIT, cows, "correct", 1, NONE, 2);
        refused(UNFIT, cows, "correct", 1, NONE, 1);
        accepted(0, cows, "correct", 1, NONE, 0);
        refused(UNFIT, Books.oneBull(), "correct", 0, 0, NONE);
        refused(UNFIT, Books.oneCow(), "correct", 0, NONE, 0);
    }

    private void correctFirstOfSeveral() {
        refused(NOBODY, family, "correct", 13, 1, NONE);
        refused(NOBODY, family, "correct", NONE, 1, 0);
        refused(NOBODY, family, "correct", 10, 1, 13);
        refused(NOBODY, family, "correct", 10, 13, 0);
        refused(NOBODY, family, "correct", 7, 4, -2);
        refused(NOBODY, family, "correct", 2, -2, 7);
        refused(NOBODY, family, "correct", 2, 6, 24);
        refused(NOBODY, family, "correct", 13, 13, 13);
    }

    /** "NoSuchElementException; IllegalStateException when it does not" */
    private void cull() {
        for (int stranger : STRANGERS_OF_13) {
            refused(NOBODY, family, "cull", stranger);
        }
        for (int stranger : STRANGERS_OF_24) {
            refused(NOBODY, full, "cull", stranger);
        }
        refused(NOBODY, family, "cull", NONE);
        refused(NOBODY, Script.empty(), "cull", 0);
        for (int culled : new int[] {0, 3, 5, 6}) {
            refused(STATE, family, "cull", culled);
        }
        refused(STATE, full.cull(23), "cull", 23);
        refused(STATE, Books.oneBull().cull(0), "cull", 0);
        accepted(8, family, "cull", 12);
        accepted(8, family, "cull", 1);
        accepted(17, full, "cull", 23);
        accepted(0, Books.oneCow(), "cull", 0);
    }

    /** "NoSuchElementException; IndexOutOfBoundsException when there is no such what" */
    private void of() {
        for (int what : new int[] {LEAST, -6, -1, 6, 7, 64, GREATEST}) {
            refused(OUTSIDE, family, "of", 0, what);
            refused(OUTSIDE, family, "of", 12, what);
            refused(NOBODY, family, "of", 13, what);
            refused(NOBODY, family, "of", NONE, what);
        }
        for (int what = 0; what <= 5; what++) {
            for (int stranger : STRANGERS_OF_13) {
                refused(NOBODY, family, "of", stranger, what);
            }
            refused(NOBODY, full, "of", 24, what);
            refused(NOBODY, family, "of", NONE, what);
            refused(NOBODY, Script.empty(), "of", 0, what);
        }
        accepted(NONE, family, "of", 0, 0);
        accepted(0, family, "of", 12, 5);
        accepted(19, full, "of", 23, 0);
    }

    private void questionsOfOne() {
        for (String name : Whole.OF_ONE) {
            for (int stranger : STRANGERS_OF_13) {
                refused(NOBODY, family, name, stranger);
            }
            for (int stranger : STRANGERS_OF_24) {
                refused(NOBODY, full, name, stranger);
            }
            refused(NOBODY, family, name, NONE);
            refused(NOBODY, full, name, NONE);
            refused(NOBODY, Script.empty(), name, 0);
            refused(NOBODY, Script.empty(), name, NONE);
            refused(NOBODY, Books.oneBull(), name, 1);
            answered(family, name, 0);
            answered(family, name, 12);
            answered(founders, name, 0);
            answered(founders, name, 23);
            answered(Books.oneBull(), name, 0);
        }
    }

    private void questionsOfTwo() {
        for (String name : Whole.OF_TWO) {
            for (int stranger : STRANGERS_OF_13) {
                refused(NOBODY, family, name, stranger, 0);
                refused(NOBODY, family, name, 0, stranger);
                refused(NOBODY, family, name, stranger, stranger);
            }
            for (int stranger : STRANGERS_OF_24) {
                refused(NOBODY, full, name, stranger, 23);
                refused(NOBODY, full, name, 12, stranger);
            }
            refused(NOBODY, family, name, NONE, 0);
            refused(NOBODY, family, name, 0, NONE);
            refused(NOBODY, family, name, NONE, NONE);
            refused(NOBODY, Script.empty(), name, 0, 0);
            refused(NOBODY, Books.oneBull(), name, 0, 1);
            refused(NOBODY, Books.oneBull(), name, 1, 0);
            answered(family, name, 0, 12);
            answered(family, name, 12, 0);
            answered(founders, name, 0, 23);
            answered(founders, name, 23, 0);
            answered(Books.oneBull(), name, 0, 0);
        }
    }

    /** "UnsupportedOperationException when the first is no founder": 8 has a sire alone, 9 a dam alone. */
    private void noFounder() {
        for (int child : new int[] {2, 5, 8, 9, 10}) {
            refused(UNFIT, family, "inHerd", child);
            refused(UNFIT, family, "share", child, child);
            refused(UNFIT, family, "share", child, 0);
            refused(NOBODY, family, "share", child, 13);
            refused(NOBODY, family, "share", child, NONE);
        }
        refused(UNFIT, full, "inHerd", 23);
        refused(UNFIT, full, "share", 23, 23);
        refused(UNFIT, family.correct(6, 0, NONE), "share", 6, 6);
        refused(UNFIT, family.correct(7, NONE, 1), "inHerd", 7);
        accepted(0, family, "share", 0, 12);
        accepted(PlainHerd.ONE, family, "share", 12, 12);
        accepted(PlainHerd.ONE, family, "inHerd", 12);
        accepted(PlainHerd.ONE, family.correct(8, NONE, NONE), "share", 8, 8);
        accepted(PlainHerd.ONE, family.correct(9, NONE, NONE), "inHerd", 9);
    }

    /** "limit not 1 .. 8" */
    private void planLimit() {
        for (int limit : new int[] {LEAST, -8, -1, 0, 9, 10, GREATEST}) {
            refused(BAD, family, "plan", Books.set(1), limit, ANY);
            refused(BAD, family, "plan", 0, limit, 0);
            refused(BAD, Script.empty(), "plan", 0, limit, 0);
        }
        for (int limit = 1; limit <= 8; limit++) {
            accepted(0, family, "plan", Books.set(7), limit, 0);
            accepted(0, family, "plan", 0, limit, ANY);
        }
    }

    /** "more than 5 cows" */
    private void planMoreThanFiveCows() {
        refused(BAD, family, "plan", Books.set(1, 7, 8, 10, 11, 12), 8, ANY);
        refused(BAD, full, "plan", Books.set(1, 7, 11, 12, 20, 23), 8, ANY);
        refused(BAD, founders, "plan", 0xfff000, 8, ANY);
        accepted(3 * PlainHerd.ONE / 32, family, "plan", Books.set(7, 8, 10, 11, 12), 2, ANY);
        accepted(0, founders, "plan", Books.set(12, 13, 14, 22, 23), 1, ANY);
        accepted(0, founders, "plan", Books.set(19, 20, 21, 22, 23), 8, 0);
    }

    /** "a most below 0" */
    private void planMost() {
        for (long most : new long[] {Long.MIN_VALUE, Long.MIN_VALUE + 1, LEAST, -(1L << 32), -2, -1}) {
            refused(BAD, family, "plan", Books.set(7), 1, most);
            refused(BAD, family, "plan", 0, 1, most);
            refused(BAD, Script.empty(), "plan", 0, 1, most);
        }
        for (long most : new long[] {0, 1, GREATEST, 1L << 31, 1L << 32, Long.MAX_VALUE - 1, Long.MAX_VALUE}) {
            accepted(0, family, "plan", Books.set(7), 1, most);
        }
    }

    /** "a bit of the set that is no animal" */
    private void planNoSuchAnimal() {
        for (int bit : new int[] {13, 14, 23, 24, 30, 31}) {
            refused(NOBODY, family, "plan", 1 << bit, 1, ANY);
            refused(NOBODY, family, "plan", Books.set(1, 7, 8, 12) | 1 << bit, 8, ANY);
        }
        for (int bit : new int[] {24, 25, 30, 31}) {
            refused(NOBODY, full, "plan", 1 << bit, 1, ANY);
            refused(NOBODY, full, "plan", Books.set(23) | 1 << bit, 1, ANY);
        }
        for (int bit : new int[] {0, 1, 23, 24, 31}) {
            refused(NOBODY, Script.empty(), "plan", 1 << bit, 1, ANY);
        }
        refused(NOBODY, Books.oneCow(), "plan", 2, 1, ANY);
        refused(NOBODY, Books.oneCow(), "plan", 3, 1, ANY);
        accepted(NONE, Books.oneCow(), "plan", 1, 1, ANY);
        accepted(0, family, "plan", Books.set(12), 1, 0);
        accepted(0, Books.founders(1, 23), "plan", Books.set(1, 23), 2, 0);
    }

    /** "UnsupportedOperationException when one is no living female" */
    private void planNoLivingFemale() {
        for (int bull : new int[] {0, 2, 4, 6, 9}) {
            refused(UNFIT, family, "plan", 1 << bull, 1, ANY);
            refused(UNFIT, family, "plan", 1 << bull | Books.set(1, 7, 12), 8, ANY);
        }
        for (int culled : new int[] {3, 5}) {
            refused(UNFIT, family, "plan", 1 << culled, 1, ANY);
            refused(UNFIT, family, "plan", 1 << culled | Books.set(1, 7, 12), 8, ANY);
        }
        refused(UNFIT, family, "plan", Books.set(3, 5, 6), 8, ANY);
        refused(UNFIT, Books.oneBull(), "plan", 1, 1, ANY);
        refused(UNFIT, Books.oneCow().cull(0), "plan", 1, 1, ANY);
        refused(UNFIT, full.cull(23), "plan", Books.set(1, 23), 1, ANY);
        for (int cow : new int[] {7, 10, 11, 12}) {
            accepted(0, family, "plan", 1 << cow, 1, ANY);
        }
    }

    private void planFirstOfSeveral() {
        refused(BAD, family, "plan", Books.set(13), 0, ANY);
        refused(BAD, family, "plan", Books.set(31), 9, ANY);
        refused(BAD, family, "plan", Books.set(13), 1, -1);
        refused(BAD, family, "plan", -1, 1, ANY);
        refused(BAD, family, "plan", Books.set(1, 7, 8, 10, 11, 13), 8, ANY);
        refused(BAD, family, "plan", Books.set(13, 14, 15, 16, 17, 18), 8, ANY);
        refused(BAD, family, "plan", Books.set(26, 27, 28, 29, 30, 31), 8, ANY);
        refused(BAD, family, "plan", Books.set(0), 0, ANY);
        refused(BAD, family, "plan", Books.set(3), 1, -1);
        refused(BAD, family, "plan", Books.set(0, 1, 2, 3, 4, 5), 1, ANY);
        refused(BAD, family, "plan", Books.set(0, 3, 13), 9, Long.MIN_VALUE);
        refused(BAD, family, "plan", -1, 0, -1);
        refused(NOBODY, family, "plan", Books.set(0, 13), 1, ANY);
        refused(NOBODY, family, "plan", Books.set(3, 31), 1, ANY);
        refused(NOBODY, full, "plan", Books.set(0, 1, 2, 3, 24), 1, ANY);
        refused(NOBODY, Books.oneBull(), "plan", 3, 1, ANY);
    }
}
