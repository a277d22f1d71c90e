import java.util.NoSuchElementException;

/** Each call on a book with no animals, with one, and with 24; and every case of NONE. */
public final class SizesTest {
    private static final int NONE = HerdKinship.NONE;
    private static final long ONE = 1L << 50;
    private static final long ANY = Long.MAX_VALUE;
    private static final Class<NoSuchElementException> NOBODY = NoSuchElementException.class;
    private static final Class<UnsupportedOperationException> UNFIT = UnsupportedOperationException.class;

    private final Check check = new Check();
    private final Whole whole = new Whole(check);

    public static void main(String[] args) {
        SizesTest test = new SizesTest();
        test.noAnimals();
        test.noAnimalsRefuse();
        test.firstAnimal();
        test.oneBull();
        test.oneCow();
        test.oneThatIsCulled();
        test.twentyFourFounders();
        test.listsOfTwentyFour();
        test.listsOfTheFirstAndTheLast();
        test.oneSireOfTwentyThree();
        test.oneDamOfTwentyThree();
        test.twentyFourGenerations();
        test.cullingAllTwentyFour();
        test.closestIsNone();
        test.bestBullIsNone();
        test.planIsNone();
        test.bullIsNone();
        test.plannedIsNone();
        test.wholeBooks();
        test.check.end();
    }

    /** "No animals, no list." */
    private void noAnimals() {
        HerdKinship x = new HerdKinship();
        check.due("animals() of none", 0, x.animals());
        check.due("herd() of none", 0, x.herd());
        check.due("planned() of none", NONE, x.planned());
        check.due("plan of no cows", 0, x.plan(0, 1, 0));
        check.due("planned() of no cows", 0, x.planned());
        check.due("animals() still", 0, x.animals());
        HerdKinship other = new HerdKinship();
        x.enter(NONE, NONE, 0, 0);
        check.due("another object has nothing of it", 0, other.animals());
        check.due("another object has no list", NONE, other.planned());
    }

    private void noAnimalsRefuse() {
        HerdKinship x = new HerdKinship();
        for (int a = -1; a <= 1; a++) {
            int one = a;
            for (String name : Whole.OF_ONE) {
                check.text(name + " of none", "throws.NoSuchElementException", new NamedCall(name, a).answerOf(x));
            }
            for (String name : Whole.OF_TWO) {
                check.text(name + " of none", "throws.NoSuchElementException", new NamedCall(name, a, 0).answerOf(x));
            }
            check.refuses("of of none", NOBODY, () -> x.of(one, 0));
            check.refuses("cull of none", NOBODY, () -> x.cull(one));
        }
        check.refuses("correct of none", NOBODY, () -> x.correct(0, NONE, NONE));
        check.refuses("plan of none", NOBODY, () -> x.plan(1, 1, ANY));
        check.refuses("enter with a sire of none", NOBODY, () -> x.enter(0, NONE, 0, 1));
        check.refuses("enter with a dam of none", NOBODY, () -> x.enter(NONE, 0, 0, 1));
        check.due("animals() after refusals", 0, x.animals());
    }

    /** "numbers from 0 on": the first may be of either sex and of any year. */
    private void firstAnimal() {
        for (int sex = 0; sex <= 1; sex++) {
            for (int year : new int[] {0, 1, 59, 60}) {
                HerdKinship x = new HerdKinship();
                check.due("the first animal", 0, x.enter(NONE, NONE, sex, year));
                check.due("its sex", sex, x.of(0, 2));
                check.due("its year", year, x.of(0, 3));
                check.due("animals()", 1, x.animals());
            }
        }
    }

    private void oneAlone(HerdKinship x) {
        check.due("animals() of one", 1, x.animals());
        check.due("sire", NONE, x.of(0, 0));
        check.due("dam", NONE, x.of(0, 1));
        check.due("it lives", 1, x.of(0, 4));
        check.due("depth", 0, x.of(0, 5));
        check.due("kinship with itself", ONE / 2, x.kinship(0, 0));
        check.due("inbreeding", 0, x.inbreeding(0));
        check.due("calf with itself", ONE / 2, x.calf(0, 0));
        check.due("share", ONE, x.share(0, 0));
        check.due("unknown", 0, x.unknown(0));
        check.due("inHerd", ONE, x.inHerd(0));
        check.due("herd", ONE / 2, x.herd());
        check.due("ancestors", 0, x.ancestors(0));
        check.due("descendants", 0, x.descendants(0));
        check.due("lines to itself", 1, x.lines(0, 0));
        check.due("nearest of itself", 1, x.nearest(0, 0));
        check.due("closest, but itself", NONE, x.closest(0));
        check.due("bull before any list", NONE, x.bull(0));
        check.due("planned before any list", NONE, x.planned());
        check.due("correct changes nothing", 0, x.correct(0, NONE, NONE));
        check.refuses("its own sire", UNFIT, () -> x.correct(0, 0, NONE));
        check.refuses("its own dam", UNFIT, () -> x.correct(0, NONE, 0));
    }

    private void oneBull() {
        HerdKinship x = Books.oneBull().program();
        oneAlone(x);
        check.due("the only bull", 0, x.bestBull(0));
        check.refuses("plan of a bull", UNFIT, () -> x.plan(1, 1, ANY));
        check.due("plan of no cows", 0, x.plan(0, 1, 0));
        check.due("planned", 0, x.planned());
        check.due("bull of a bull", NONE, x.bull(0));
    }

    private void oneCow() {
        HerdKinship x = Books.oneCow().program();
        oneAlone(x);
        check.due("no bull", NONE, x.bestBull(0));
        check.due("a list of no cows", 0, x.plan(0, 1, 0));
        check.due("plan without a bull", NONE, x.plan(1, 8, ANY));
        check.due("planned", NONE, x.planned());
        check.due("bull", NONE, x.bull(0));
    }

    private void oneThatIsCulled() {
        for (Script book : new Script[] {Books.oneBull(), Books.oneCow()}) {
            HerdKinship x = book.program();
            check.due("the last that lived", 0, x.cull(0));
            check.due("animals() still", 1, x.animals());
            check.due("it does not live", 0, x.of(0, 4));
            check.due("kinship still", ONE / 2, x.kinship(0, 0));
            check.due("share still", ONE, x.share(0, 0));
            check.due("inHerd of nobody", 0, x.inHerd(0));
            check.due("herd of nobody", 0, x.herd());
            check.due("lines still", 1, x.lines(0, 0));
            check.due("nearest still", 1, x.nearest(0, 0));
            check.due("closest of nobody", NONE, x.closest(0));
            check.due("bestBull of nobody", NONE, x.bestBull(0));
            check.refuses("plan of one that is culled", UNFIT, () -> x.plan(1, 1, ANY));
        }
    }

    private void twentyFourFounders() {
        HerdKinship x = Books.founders(12, 12).program();
        check.due("animals()", 24, x.animals());
        check.due("herd()", 12 * ONE, x.herd());
        for (int a = 0; a < 24; a++) {
            check.due("kinship with itself " + a, ONE / 2, x.kinship(a, a));
            check.due("kinship with the next " + a, 0, x.kinship(a, (a + 1) % 24));
            check.due("inHerd " + a, ONE, x.inHerd(a));
            check.due("unknown " + a, 0, x.unknown(a));
            check.due("nearest " + a, 1 << a, x.nearest(a, a));
            check.due("lines " + a, 1, x.lines(a, a));
            check.due("closest " + a, a == 0 ? 1 : 0, x.closest(a));
            check.due("bestBull " + a, a == 0 ? 1 : 0, x.bestBull(a));
            check.due("sex " + a, a < 12 ? 0 : 1, x.of(a, 2));
        }
    }

    private void listsOfTwentyFour() {
        HerdKinship x = Books.founders(12, 12).program();
        check.due("the last five cows", 0, x.plan(0xf80000, 1, 0));
        for (int a = 0; a < 24; a++) {
            check.due("bull of " + a, a < 19 ? NONE : a - 19, x.bull(a));
        }
        HerdKinship y = Books.founders(1, 23).program();
        check.due("one bull for the first and the last cow", 0, y.plan(1 << 1 | 1 << 23, 2, 0));
        check.due("bull of the first", 0, y.bull(1));
        check.due("bull of the last", 0, y.bull(23));
        Script lastIsBull = Books.founders(0, 23).bull(0);
        HerdKinship z = lastIsBull.program();
        check.due("the last is the only bull", 0, z.plan(1 << 0 | 1 << 22, 2, 0));
        check.due("bull of the first cow", 23, z.bull(0));
        check.due("bull of the last cow", 23, z.bull(22));
        check.due("bestBull", 23, z.bestBull(0));
        check.due("bestBull of himself", 23, z.bestBull(23));
    }

    /** The first animal is a cow, the last her son; or the first a bull, the last his daughter. */
    private void listsOfTheFirstAndTheLast() {
        HerdKinship x = Books.founders(0, 23).enter(NONE, 0, 0, 1).program();
        check.due("plan of 0 and 22", ONE / 4, x.plan(1 << 0 | 1 << 22, 2, ANY));
        check.due("planned", ONE / 4, x.planned());
        check.due("bull of 0", 23, x.bull(0));
        check.due("bull of 22", 23, x.bull(22));
        check.due("closest of 0", 23, x.closest(0));
        check.due("closest of 23", 0, x.closest(23));
        check.due("above the most", NONE, x.plan(1, 1, ONE / 4 - 1));
        HerdKinship y = Books.founders(1, 22).enter(0, NONE, 1, 1).program();
        check.due("plan of 1 and 23", ONE / 4, y.plan(1 << 1 | 1 << 23, 2, ANY));
        check.due("planned", ONE / 4, y.planned());
        check.due("bull of 1", 0, y.bull(1));
        check.due("bull of 23", 0, y.bull(23));
        check.due("closest of 0", 23, y.closest(0));
        check.due("closest of 23", 0, y.closest(23));
        check.due("above the most", NONE, y.plan(1 << 23, 1, ONE / 4 - 1));
    }

    private void oneSireOfTwentyThree() {
        Script book = Books.oneBull();
        for (int a = 1; a < 24; a++) {
            book = book.enter(0, NONE, a % 2, 1);
        }
        HerdKinship x = book.program();
        check.due("descendants of the sire", 0xfffffe, x.descendants(0));
        check.due("inHerd of the sire", ONE + 23 * (ONE / 2), x.inHerd(0));
        check.due("half siblings", ONE / 8, x.kinship(22, 23));
        check.due("sire and last", ONE / 4, x.kinship(0, 23));
        check.due("unknown in the last", ONE / 2, x.unknown(23));
        check.due("closest of the sire", 1, x.closest(0));
        check.due("closest of the last", 0, x.closest(23));
        check.due("herd()", 24 * (ONE / 2) + 23 * (ONE / 4) + 253 * (ONE / 8), x.herd());
        check.due("nearest of the last two", 1, x.nearest(22, 23));
    }

    private void oneDamOfTwentyThree() {
        Script book = Script.empty().cow(0);
        for (int a = 1; a < 24; a++) {
            book = book.enter(NONE, 0, a % 2, 1);
        }
        HerdKinship x = book.program();
        check.due("descendants of the dam", 0xfffffe, x.descendants(0));
        check.due("lines to the last", 1, x.lines(0, 23));
        check.due("half siblings", ONE / 8, x.kinship(1, 23));
        check.due("best bull of the dam", 2, x.bestBull(0));
        check.due("one whose dam alone is known: depth", 1, x.of(23, 5));
        check.due("its sire", NONE, x.of(23, 0));
        check.due("its dam", 0, x.of(23, 1));
    }

    private void twentyFourGenerations() {
        HerdKinship x = Books.deep().program();
        check.due("depth of the last", 22, x.of(23, 5));
        check.due("ancestors of the last", 0x7fffff, x.ancestors(23));
        check.due("descendants of the first", 0xfffffc, x.descendants(0));
        check.due("descendants of the last", 0, x.descendants(23));
        check.due("lines from the first", 17711, x.lines(0, 23));
        check.due("nearest of the last two", 1 << 22, x.nearest(23, 22));
        for (int a = 0; a < 24; a++) {
            check.due("both shares in " + a, ONE, x.share(0, a) + x.share(1, a));
            check.due("unknown in " + a, 0, x.unknown(a));
        }
        Script chain = Books.oneBull();
        for (int a = 1; a < 24; a++) {
            chain = chain.enter(a - 1, NONE, 0, a);
        }
        HerdKinship y = chain.program();
        check.due("depth by sires alone", 23, y.of(23, 5));
        check.due("share by sires alone", ONE >> 23, y.share(0, 23));
        check.due("unknown by sires alone", ONE - (ONE >> 23), y.unknown(23));
        check.due("kinship by sires alone", ONE >> 24, y.kinship(0, 23));
        check.due("lines by sires alone", 1, y.lines(0, 23));
        check.due("ancestors by sires alone", 0x7fffff, y.ancestors(23));
    }

    private void cullingAllTwentyFour() {
        HerdKinship x = Books.full().program();
        int living = 0;
        for (int a = 0; a < 24; a++) {
            living += x.of(a, 4);
        }
        check.due("those that live", 18, living);
        for (int a = 23; a >= 0; a--) {
            if (x.of(a, 4) == 1) {
                living--;
                check.due("cull(" + a + ")", living, x.cull(a));
            }
        }
        check.due("none lives", 0, living);
        check.due("herd() of nobody", 0, x.herd());
        check.due("animals()", 24, x.animals());
    }

    /** "NONE when there is none": closest. */
    private void closestIsNone() {
        HerdKinship x = Books.founders(1, 1).program();
        x.cull(1);
        check.due("only itself lives", NONE, x.closest(0));
        check.due("one that does not live has one", 0, x.closest(1));
        x.cull(0);
        check.due("nobody lives", NONE, x.closest(0));
        check.due("nobody lives", NONE, x.closest(1));
    }

    /** "NONE when there is none": bestBull. */
    private void bestBullIsNone() {
        HerdKinship x = Books.founders(0, 2).program();
        check.due("there was never a bull", NONE, x.bestBull(1));
        HerdKinship y = Books.founders(2, 1).program();
        y.cull(0);
        check.due("a bull is left", 1, y.bestBull(2));
        y.cull(1);
        check.due("no bull is left", NONE, y.bestBull(2));
        check.due("nor for a bull", NONE, y.bestBull(0));
        y.enter(NONE, NONE, 0, 0);
        check.due("a new bull", 3, y.bestBull(2));
    }

    /** "NONE when there is none": no bull, too few for the limit, none under the most. */
    private void planIsNone() {
        check.due("no bull", NONE, Books.founders(0, 2).program().plan(3, 8, ANY));
        check.due("no living bull", NONE, Books.founders(1, 1).cull(0).program().plan(2, 8, ANY));
        check.due("one too many for the limit", NONE, Books.founders(2, 5).program().plan(0b1111100, 2, ANY));
        check.due("just as many", 0, Books.founders(2, 4).program().plan(0b111100, 2, ANY));
        HerdKinship x = Books.siblings().program();
        check.due("all above the most", NONE, x.plan(1 << 5, 8, ONE / 4 - 1));
        check.due("one of them above the most", NONE, x.plan(1 << 1 | 1 << 5, 8, ONE / 4 - 1));
        check.due("none above it", 0, x.plan(1 << 1, 8, ONE / 4 - 1));
        check.due("limit and most together", NONE, x.plan(1 << 1 | 1 << 3, 1, ONE / 4 - 1));
    }

    /** "NONE when it has none": bull. */
    private void bullIsNone() {
        HerdKinship x = Books.founders(1, 2).program();
        check.due("no list yet", NONE, x.bull(1));
        x.plan(1 << 1, 1, ANY);
        check.due("she is in the list", 0, x.bull(1));
        check.due("she is not in the list", NONE, x.bull(2));
        check.due("a bull has no bull", NONE, x.bull(0));
        x.enter(NONE, NONE, 1, 0);
        check.due("one that came later", NONE, x.bull(3));
        x.plan(0, 1, ANY);
        check.due("a list of no cows", NONE, x.bull(1));
    }

    /** "NONE when there is no list": planned. */
    private void plannedIsNone() {
        HerdKinship x = Books.founders(1, 2).program();
        check.due("no list yet", NONE, x.planned());
        check.due("none", NONE, x.plan(0b110, 1, ANY));
        check.due("none was found", NONE, x.planned());
        check.due("found", 0, x.plan(0b110, 2, ANY));
        check.due("there is one", 0, x.planned());
        check.due("none again", NONE, x.plan(0b110, 1, ANY));
        check.due("the one that was is gone", NONE, x.planned());
        check.due("a list of no cows", 0, x.plan(0, 1, ANY));
        check.due("is a list", 0, x.planned());
    }

    private void wholeBooks() {
        whole.isAsPlain("no animals", Script.empty());
        whole.isAsPlain("one bull", Books.oneBull());
        whole.isAsPlain("one cow", Books.oneCow());
        whole.isAsPlain("siblings", Books.siblings());
        whole.isAsPlain("family", Books.family());
        whole.isAsPlain("full", Books.full());
        whole.isAsPlain("deep", Books.deep());
        whole.isAsPlain("founders", Books.founders(12, 12));
    }
}
