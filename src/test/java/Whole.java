import java.util.ArrayList;
import java.util.List;

/** Asks a whole book: every question of the face about every animal and every pair. */
final class Whole {
    static final String[] OF_THE_HERD = {"animals", "herd", "planned"};
    static final String[] OF_ONE = {
        "inbreeding", "unknown", "inHerd", "ancestors", "descendants", "closest", "bestBull", "bull",
    };
    static final String[] OF_TWO = {"kinship", "calf", "share", "lines", "nearest"};

    // An object is used for 512 calls: a portion may be asked twice of a book of 24 with room to spare.
    private static final int PORTION = 200;

    private final Check check;

    Whole(Check check) {
        this.check = check;
    }

    /** The program answers as the document's words do. */
    void isAsPlain(String what, Script book) {
        for (List<NamedCall> portion : portions(book.animals())) {
            compare(what, portion, book.plain(), book.program());
        }
    }

    /** So it does after the change, too, when the same was asked before: no earlier answer is kept. */
    void isAsPlainAfter(String what, Script book, NamedCall change) {
        for (List<NamedCall> portion : portions(book.animals())) {
            PlainHerd plain = book.plain();
            HerdKinship program = book.program();
            compare(what + ", before " + change, portion, plain, program);
            check.text(what + ": " + change, change.answerOf(plain), change.answerOf(program));
            compare(what + ", after " + change, portion, plain, program);
        }
    }

    /** A call that throws changes nothing: what is asked and done next goes as without it. */
    void isUnchangedBy(Script book, NamedCall refused) {
        for (List<NamedCall> portion : portions(book.animals())) {
            HerdKinship tried = book.program();
            refused.answerOf(tried);
            compare("after the refused " + refused, portion, book.program(), tried);
        }
    }

    private void compare(String what, List<NamedCall> portion, Object want, Object got) {
        for (NamedCall call : portion) {
            check.text(what + ": " + call, call.answerOf(want), call.answerOf(got));
        }
    }

    private static List<List<NamedCall>> portions(int animals) {
        List<NamedCall> all = new ArrayList<>();
        askTheHerd(all);
        for (int a = 0; a < animals; a++) {
            askOne(all, a);
            for (int b = 0; b < animals; b++) {
                askTwo(all, a, b);
            }
        }
        List<List<NamedCall>> portions = new ArrayList<>();
        for (int from = 0; from < all.size(); from += PORTION) {
            portions.add(all.subList(from, Math.min(all.size(), from + PORTION)));
        }
        portions.add(nextDeeds(animals));
        return portions;
    }

    private static void askTheHerd(List<NamedCall> all) {
        for (String name : OF_THE_HERD) {
            all.add(new NamedCall(name));
        }
    }

    private static void askOne(List<NamedCall> all, int a) {
        for (int what = 0; what <= 5; what++) {
            all.add(new NamedCall("of", a, what));
        }
        for (String name : OF_ONE) {
            all.add(new NamedCall(name, a));
        }
    }

    private static void askTwo(List<NamedCall> all, int a, int b) {
        for (String name : OF_TWO) {
            all.add(new NamedCall(name, a, b));
        }
    }

    /** What is done next shows what no question tells, as the number that the next animal gets. */
    private static List<NamedCall> nextDeeds(int animals) {
        List<NamedCall> deeds = new ArrayList<>();
        for (int a = 0; a < animals; a++) {
            deeds.add(new NamedCall("plan", 1 << a, 1, Long.MAX_VALUE));
            deeds.add(new NamedCall("bull", a));
        }
        deeds.add(new NamedCall("enter", -1, -1, 0, 0));
        for (int a = animals - 1; a >= 0; a--) {
            deeds.add(new NamedCall("correct", a, -1, -1));
            deeds.add(new NamedCall("cull", a));
            deeds.add(new NamedCall("planned"));
        }
        askTheHerd(deeds);
        return deeds;
    }
}
