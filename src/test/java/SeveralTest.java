/** What the document says of several that are equal, with several. */
public final class SeveralTest {
    private static final int NONE = HerdKinship.NONE;
    private static final long ONE = 1L << 50;
    private static final long ANY = Long.MAX_VALUE;

    private final Check check = new Check();

    public static void main(String[] args) {
        SeveralTest test = new SeveralTest();
        test.closestOfSeveral();
        test.closestOfStrangers();
        test.closestIsNotTheFirst();
        test.bestBullOfSeveral();
        test.bestBullOfStrangers();
        test.bestBullIsNotTheFirst();
        test.listsOfStrangers();
        test.listsOfGreatNumbers();
        test.bullsBehindTheCows();
        test.leastCowBeforeTheOthers();
        test.leastCowBeforeTheLeastBulls();
        test.laterCowsDecide();
        test.lastCowDecides();
        test.sumBeforeNumbers();
        test.limitMakesTheChoice();
        test.mostMakesTheChoice();
        test.severalNearest();
        test.check.end();
    }

    private void dueBulls(String what, HerdKinship x, int cows, int... bulls) {
        int place = 0;
        for (int a = 0; a < x.animals(); a++) {
            boolean listed = (cows >> a & 1) != 0;
            check.due(what + ": bull(" + a + ")", listed ? bulls[place] : NONE, x.bull(a));
            place += listed ? 1 : 0;
        }
    }

    private void dueList(String what, Script book, int cows, int limit, long most, long sum, int... bulls) {
        HerdKinship x = book.program();
        check.due(what, sum, x.plan(cows, limit, most));
        check.due(what + ": planned()", sum, x.planned());
        dueBulls(what, x, cows, bulls);
    }

    /** "of several the least number": 2, 3 and 5 are 3/8 to 4, then 0 and 1 a quarter. */
    private void closestOfSeveral() {
        HerdKinship x = Books.siblings().program();
        int[] due = {2, 3, 5, 0, 1};
        for (int a : due) {
            check.due("closest(4)", a, x.closest(4));
            x.cull(a);
        }
        check.due("closest(4) when he alone lives", NONE, x.closest(4));
        check.due("closest(5), who does not live", 4, x.closest(5));
    }

    private void closestOfStrangers() {
        HerdKinship x = Books.founders(2, 2).program();
        check.due("the least but itself", 1, x.closest(0));
        check.due("the least", 0, x.closest(3));
        x.cull(0);
        check.due("the least that lives but itself", 2, x.closest(1));
        check.due("the least that lives", 1, x.closest(3));
        check.due("the least that lives, of one that does not", 1, x.closest(0));
    }

    /** 4 is a daughter of 2; to the others she is a stranger. */
    private void closestIsNotTheFirst() {
        HerdKinship x = Books.founders(3, 1).enter(2, NONE, 1, 1).enter(2, NONE, 0, 1).program();
        check.due("her sire before strangers and half siblings", 2, x.closest(4));
        check.due("his least child", 4, x.closest(2));
        x.cull(2);
        check.due("her half brother", 5, x.closest(4));
        check.due("the other way round", 4, x.closest(5));
    }

    /** "of several the least number": 0 is a quarter to 5, 2 and 4 are 3/8. */
    private void bestBullOfSeveral() {
        HerdKinship x = Books.siblings().program();
        check.due("0 and 2 for 3", 0, x.bestBull(3));
        check.due("0 alone for 5", 0, x.bestBull(5));
        x.cull(0);
        check.due("2 and 4 for 5", 2, x.bestBull(5));
        check.due("2 alone for 3", 2, x.bestBull(3));
        x.cull(2);
        check.due("4 is left", 4, x.bestBull(5));
    }

    private void bestBullOfStrangers() {
        HerdKinship x = Books.founders(3, 1).program();
        for (int bull = 0; bull < 3; bull++) {
            check.due("the least that lives", bull, x.bestBull(3));
            x.cull(bull);
        }
        HerdKinship y = Books.founders(3, 0).program();
        check.due("a bull is nearest to himself", 1, y.bestBull(0));
        check.due("the least", 0, y.bestBull(1));
    }

    /** 3 is a daughter of 0, her dam 2 a daughter of 1; 4 and 5 are strangers. */
    private void bestBullIsNotTheFirst() {
        Script book = Books.founders(2, 0).enter(1, NONE, 1, 1).enter(0, 2, 1, 2);
        check.due("a grandsire before a sire", 1, book.program().bestBull(3));
        check.due("a stranger before both", 4, book.bull(0).bull(0).program().bestBull(3));
        check.due("the other stranger", 5, book.bull(0).bull(0).cull(4).program().bestBull(3));
    }

    /** "that in which the cow with the least number has the bull with the least number, and so on" */
    private void listsOfStrangers() {
        Script five = Books.founders(5, 5);
        int cows = 0b1111100000;
        dueList("one each", five, cows, 1, ANY, 0, 0, 1, 2, 3, 4);
        dueList("two each", five, cows, 2, ANY, 0, 0, 0, 1, 1, 2);
        dueList("three each", five, cows, 3, ANY, 0, 0, 0, 0, 1, 1);
        dueList("four each", five, cows, 4, ANY, 0, 0, 0, 0, 0, 1);
        dueList("five each", five, cows, 5, ANY, 0, 0, 0, 0, 0, 0);
        dueList("eight each", five, cows, 8, 0, 0, 0, 0, 0, 0, 0);
        dueList("one each, without 0 and 2", five.cull(0).cull(2), Books.set(5, 7, 9), 1, ANY, 0, 1, 3, 4);
        dueList("two cows of five", five, Books.set(6, 9), 1, ANY, 0, 0, 1);
        dueList("a spare bull", Books.founders(7, 5), 0b111110000000, 1, ANY, 0, 0, 1, 2, 3, 4);
    }

    /** Cows 0 to 4, bulls 5 to 23: numbers of bulls that need five bits. */
    private void listsOfGreatNumbers() {
        Script book = Books.founders(0, 5);
        for (int a = 5; a < 24; a++) {
            book = book.bull(0);
        }
        dueList("one each of 5 to 23", book, 0b11111, 1, ANY, 0, 5, 6, 7, 8, 9);
        for (int a = 5; a < 19; a++) {
            book = book.cull(a);
        }
        dueList("one each of 19 to 23", book, 0b11111, 1, ANY, 0, 19, 20, 21, 22, 23);
        dueList("two each of 19 to 23", book, 0b11111, 2, ANY, 0, 19, 19, 20, 20, 21);
    }

    private void bullsBehindTheCows() {
        Script book = Script.empty().cow(0).bull(0).cow(0).bull(0).cow(0).bull(0);
        dueList("bulls between the cows", book, 0b10101, 1, ANY, 0, 1, 3, 5);
        dueList("bulls between the cows, two each", book, 0b10101, 2, ANY, 0, 1, 1, 3);
        dueList("the cows behind and before", book, 0b10001, 1, ANY, 0, 1, 3);
    }

    /** Two lists with the same sum, [0, 1] and [1, 0]: each cow is a daughter of 0 and of 1's daughter. */
    private void leastCowBeforeTheOthers() {
        Script book = Books.founders(2, 0).enter(1, NONE, 1, 1).enter(0, 2, 1, 2).enter(0, 2, 1, 2);
        dueList("the least cow has the least bull", book, Books.set(3, 4), 1, ANY, ONE / 4 + ONE / 8, 0, 1);
        dueList("both have the better one", book, Books.set(3, 4), 2, ANY, ONE / 4, 1, 1);
    }

    /**
     * Cow 5 is a stranger to 0, an eighth to 1, a quarter to 2; cow 6 a stranger to 0, a quarter to 1,
     * an eighth to 2. [0, 2] and [1, 0] have the same sum: the second has lesser numbers in all, but
     * the least cow decides.
     */
    private void leastCowBeforeTheLeastBulls() {
        Script book = Books.founders(3, 0).enter(1, NONE, 1, 1).enter(2, NONE, 1, 1).enter(2, 3, 1, 2).enter(1, 4, 1, 2);
        dueList("the least cow decides", book, Books.set(5, 6), 1, ANY, ONE / 8, 0, 2);
        dueList("0 for both", book, Books.set(5, 6), 2, ANY, 0, 0, 0);
    }

    /** The first cow has 0 in all the best lists; 1 is the second cow's sire. */
    private void laterCowsDecide() {
        Script book = Books.founders(4, 1).enter(1, NONE, 1, 1).cow(0);
        dueList("the second cow has the least that is left", book, Books.set(4, 5, 6), 1, ANY, 0, 0, 2, 1);
        dueList("the third cow, too", book.cull(2), Books.set(4, 5, 6), 1, ANY, 0, 0, 3, 1);
        dueList("two each", book, Books.set(4, 5, 6), 2, ANY, 0, 0, 0, 1);
    }

    /** Six bulls and five cows, the last of which is a daughter of 4. */
    private void lastCowDecides() {
        Script book = Books.founders(6, 4).enter(4, NONE, 1, 1);
        int cows = Books.set(6, 7, 8, 9, 10);
        dueList("the last cow has 5", book, cows, 1, ANY, 0, 0, 1, 2, 3, 5);
        dueList("two each of 1 to 4", book.cull(5).cull(0), cows, 2, ANY, 0, 1, 1, 2, 2, 3);
        dueList("the last but one has 4", book.cull(5), cows, 1, ANY, 0, 0, 1, 2, 4, 3);
    }

    /** A list with a lesser sum goes before one with lesser numbers. */
    private void sumBeforeNumbers() {
        Script daughter = Books.founders(2, 0).enter(0, NONE, 1, 1).cow(0);
        dueList("she is a daughter of 0", daughter, Books.set(2, 3), 1, ANY, 0, 1, 0);
        Script grand = Books.founders(2, 0).enter(0, NONE, 1, 1).enter(NONE, 2, 1, 2).enter(1, NONE, 1, 1);
        dueList("an eighth is less than a quarter", grand, Books.set(2, 3), 1, ANY, ONE / 8, 1, 0);
        dueList("each has the other one's sire", grand, Books.set(2, 4), 1, ANY, 0, 1, 0);
    }

    /** No bull more cows than a limit: the sum grows as the limit shrinks. */
    private void limitMakesTheChoice() {
        Script book = Books.founders(2, 0).enter(0, NONE, 1, 1).enter(0, NONE, 1, 1).enter(0, NONE, 1, 1);
        int cows = Books.set(2, 3, 4);
        dueList("the stranger for three", book, cows, 3, ANY, 0, 1, 1, 1);
        dueList("the stranger for two", book, cows, 2, ANY, ONE / 4, 0, 1, 1);
        HerdKinship x = book.program();
        check.due("two bulls for three cows, one each", NONE, x.plan(cows, 1, ANY));
    }

    /** None whose kinship with her is above a most: of equal sums one may be ruled out. */
    private void mostMakesTheChoice() {
        Script book = Books.founders(1, 1).enter(0, 1, 0, 1).enter(2, 1, 1, 2);
        long sum = 3 * ONE / 8;
        dueList("a stranger and 3/8", book, 0b1010, 1, ANY, sum, 0, 2);
        dueList("3/8 is just the most", book, 0b1010, 1, sum, sum, 0, 2);
        dueList("3/8 is above the most", book, 0b1010, 1, sum - 1, sum, 2, 0);
        dueList("a quarter is just the most", book, 0b1010, 1, ONE / 4, sum, 2, 0);
        HerdKinship x = book.program();
        check.due("a quarter is above the most", NONE, x.plan(0b1010, 1, ONE / 4 - 1));
        check.due("the sum may be above the most", sum, x.plan(0b1010, 1, ONE / 4));
    }

    /** Common ancestors of which none descends from another one are all told. */
    private void severalNearest() {
        Script book = Books.founders(2, 2).enter(0, 2, 0, 1).enter(1, 3, 1, 1).enter(4, 5, 0, 2).enter(4, 5, 1, 2);
        HerdKinship x = book.enter(0, 7, 0, 3).enter(6, 2, 1, 3).program();
        check.due("both parents", Books.set(4, 5), x.nearest(6, 7));
        check.due("parents, not the founders by other lines", Books.set(4, 5), x.nearest(8, 9));
        check.due("itself alone", Books.set(6), x.nearest(6, 9));
        check.due("one founder", Books.set(0), x.nearest(0, 8));
        check.due("none", 0, x.nearest(4, 5));
    }
}
