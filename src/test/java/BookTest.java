/** Promises 1 to 6: a new object, enter, correct, cull, of, animals. RefusalTest has what they refuse. */
public final class BookTest {
    private static final int NONE = HerdKinship.NONE;

    private final Check check = new Check();

    public static void main(String[] args) {
        BookTest test = new BookTest();
        test.newObject();
        test.enterAnswersNumbers();
        test.enterUpTo24();
        test.enterKeepsWhatItWasTold();
        test.correctGivesOtherParents();
        test.correctCounts();
        test.correctCountsCulledOnes();
        test.correctToKinOfTheSameKind();
        test.cullCountsTheLiving();
        test.ofTellsEverything();
        test.depth();
        test.check.end();
    }

    /** The siblings, and 6 of 4 and 5. */
    private static Script threeGenerations() {
        return Books.siblings().enter(4, 5, 0, 6);
    }

    private void newObject() {
        HerdKinship x = new HerdKinship();
        check.due("animals() of a new object", 0, x.animals());
        check.due("planned() of a new object", NONE, x.planned());
        check.due("herd() of a new object", 0, x.herd());
    }

    private void enterAnswersNumbers() {
        HerdKinship x = new HerdKinship();
        check.due("the first", 0, x.enter(NONE, NONE, 0, 0));
        check.due("the second", 1, x.enter(NONE, NONE, 1, 59));
        check.due("last year", 2, x.enter(0, 1, 1, 60));
        check.due("without a sire", 3, x.enter(NONE, 1, 0, 60));
        check.due("without a dam", 4, x.enter(0, NONE, 0, 1));
        check.due("animals()", 5, x.animals());
        x.cull(0);
        check.due("a sire that does not live", 5, x.enter(0, NONE, 0, 1));
        check.due("the same again is another one", 6, x.enter(0, NONE, 0, 1));
    }

    private void enterUpTo24() {
        HerdKinship x = threeGenerations().program();
        for (int a = 7; a < 24; a++) {
            check.due("up to 24", a, x.enter(0, 1, a % 2, 10));
            check.due("animals()", a + 1, x.animals());
        }
        check.due("the last one is a relative", 1L << 48, x.kinship(0, 23));
        check.due("the last one lives", 1, x.of(23, 4));
        check.due("the last one's year", 10, x.of(23, 3));
    }

    /** Every mixture of known and unknown parents, both sexes, the least and the greatest year. */
    private void enterKeepsWhatItWasTold() {
        for (int sire = NONE; sire <= 0; sire++) {
            for (int dam = NONE; dam <= 1; dam += 2) {
                for (int sex = 0; sex <= 1; sex++) {
                    for (int year : new int[] {1, 2, 59, 60}) {
                        HerdKinship x = Books.founders(1, 1).program();
                        int a = x.enter(sire, dam, sex, year);
                        int[] due = {sire, dam, sex, year, 1, sire == NONE && dam == NONE ? 0 : 1};
                        for (int what = 0; what < 6; what++) {
                            check.due("of(2, " + what + ")", due[what], x.of(a, what));
                        }
                    }
                }
            }
        }
    }

    private void correctGivesOtherParents() {
        HerdKinship x = threeGenerations().program();
        int[][] parents = {{NONE, NONE}, {0, NONE}, {NONE, 1}, {0, 1}, {2, 1}, {0, 3}, {4, 5}, {4, 5}};
        for (int[] pair : parents) {
            x.correct(6, pair[0], pair[1]);
            check.due("sire", pair[0], x.of(6, 0));
            check.due("dam", pair[1], x.of(6, 1));
            check.due("animals() stay", 7, x.animals());
        }
        check.due("those of another one stay", 2, x.of(5, 0));
    }

    /** "how many animals' inbreeding is another one then" */
    private void correctCounts() {
        HerdKinship x = threeGenerations().program();
        check.due("the same parents", 0, x.correct(6, 4, 5));
        check.due("4, 5 and 6", 3, x.correct(3, NONE, NONE));
        check.due("all three back", 3, x.correct(3, 0, 1));
        check.due("it alone", 1, x.correct(6, 4, NONE));
        check.due("it had none before", 0, x.correct(6, NONE, 5));
        check.due("nor has it now", 0, x.correct(6, NONE, NONE));
        check.due("its own again", 1, x.correct(6, 4, 5));
        check.due("less, but not none", 1, x.correct(6, 0, 5));
        check.due("its own and its child's", 2, x.correct(5, 2, NONE));
        check.due("its own is none still, its child's is another", 1, x.correct(5, NONE, NONE));
        check.due("a founder's", 0, x.correct(0, NONE, NONE));
    }

    private void correctCountsCulledOnes() {
        HerdKinship x = threeGenerations().cull(4).cull(6).program();
        check.due("those that do not live, too", 3, x.correct(3, 0, NONE));
        check.due("one that does not live by itself", 1, x.correct(6, NONE, NONE));
    }

    /** 2 and 4 are brothers, 3 and 5 sisters: a calf of any two of them is as inbred as that of any others. */
    private void correctToKinOfTheSameKind() {
        Script book = Books.founders(1, 1).enter(0, 1, 0, 2).enter(0, 1, 1, 2).enter(0, 1, 0, 2).enter(0, 1, 1, 2);
        HerdKinship x = book.enter(2, 3, 0, 4).enter(6, 3, 1, 6).program();
        check.due("its own stays, its child's is another", 1, x.correct(6, 2, 5));
        check.due("its own stays, its child's too", 0, x.correct(6, 4, 5));
        check.due("its child is more inbred again", 1, x.correct(6, 4, 3));
    }

    private void cullCountsTheLiving() {
        HerdKinship x = threeGenerations().program();
        check.due("cull(3)", 6, x.cull(3));
        check.due("it does not live", 0, x.of(3, 4));
        check.due("cull(0)", 5, x.cull(0));
        check.due("animals() stay", 7, x.animals());
        check.due("the others live", 1, x.of(2, 4));
        x.enter(NONE, NONE, 0, 0);
        check.due("with a new one", 5, x.cull(1));
        check.due("the new one", 4, x.cull(7));
        check.due("the last", 0, Books.oneBull().program().cull(0));
    }

    private void ofTellsEverything() {
        HerdKinship x = threeGenerations().enter(NONE, 3, 1, 60).enter(6, 1, 0, 50).cull(6).program();
        int[][] due = {
            {NONE, NONE, 0, 0, 1, 0}, {0, 1, 1, 2, 1, 1}, {4, 5, 0, 6, 0, 3}, {NONE, 3, 1, 60, 1, 2}, {6, 1, 0, 50, 1, 4},
        };
        int[] animals = {0, 3, 6, 7, 8};
        for (int i = 0; i < animals.length; i++) {
            for (int what = 0; what < 6; what++) {
                check.due("of(" + animals[i] + ", " + what + ")", due[i][what], x.of(animals[i], what));
            }
        }
    }

    /** "0 for a founder, otherwise one more than the greater depth of its parents that are known" */
    private void depth() {
        HerdKinship x = threeGenerations().program();
        int[][] parents = {{NONE, NONE, 0}, {0, NONE, 1}, {NONE, 1, 1}, {0, 5, 3}, {6, 1, 4}, {6, 5, 4}, {4, NONE, 3}, {NONE, 3, 2}};
        for (int[] row : parents) {
            int a = x.enter(row[0], row[1], 0, 60);
            check.due("depth of one of " + row[0] + " and " + row[1], row[2], x.of(a, 5));
        }
    }
}
