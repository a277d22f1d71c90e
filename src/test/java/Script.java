import java.util.ArrayList;
import java.util.List;

/** A book as the calls that make it, so that the same book can be made anew as often as a test needs it. */
final class Script {
    private static final int NONE = HerdKinship.NONE;

    private final List<NamedCall> calls;
    private final int animals;

    private Script(List<NamedCall> calls, int animals) {
        this.calls = calls;
        this.animals = animals;
    }

    static Script empty() {
        return new Script(List.of(), 0);
    }

    Script enter(int sire, int dam, int sex, int year) {
        return with(new NamedCall("enter", sire, dam, sex, year), animals + 1);
    }

    Script bull(int year) {
        return enter(NONE, NONE, 0, year);
    }

    Script cow(int year) {
        return enter(NONE, NONE, 1, year);
    }

    Script correct(int a, int sire, int dam) {
        return with(new NamedCall("correct", a, sire, dam), animals);
    }

    Script cull(int a) {
        return with(new NamedCall("cull", a), animals);
    }

    Script plan(int cows, int limit, long most) {
        return with(new NamedCall("plan", cows, limit, most), animals);
    }

    int animals() {
        return animals;
    }

    /** How many of its 512 calls an object has been used for when the book is made. */
    int length() {
        return calls.size();
    }

    HerdKinship program() {
        HerdKinship book = new HerdKinship();
        makeIn(book);
        return book;
    }

    PlainHerd plain() {
        PlainHerd book = new PlainHerd();
        makeIn(book);
        return book;
    }

    private Script with(NamedCall call, int animalsThen) {
        List<NamedCall> longer = new ArrayList<>(calls);
        longer.add(call);
        return new Script(longer, animalsThen);
    }

    private void makeIn(Object book) {
        for (NamedCall call : calls) {
            String answer = call.answerOf(book);
            if (answer.startsWith("throws.")) {
                throw new AssertionError("the book can't be made: " + call + " " + answer);
            }
        }
    }
}
