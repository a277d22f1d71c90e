import java.util.ArrayList;
import java.util.List;

/**
 * Every call with every mixture of arguments at and beyond the limits, on books of no animals, of
 * one, of some and of 24, held against PlainHerd: whatever reasons for a refusal meet, the first of
 * the throws clause is due.
 */
public final class SweepTest {
    private static final int LEAST = Integer.MIN_VALUE;
    private static final int GREATEST = Integer.MAX_VALUE;
    private static final int[] SEXES = {-1, 0, 1, 2};
    private static final int[] YEARS = {LEAST, -1, 0, 1, 5, 13, 60, 61, GREATEST};
    private static final int[] WHATS = {LEAST, -1, 0, 1, 2, 3, 4, 5, 6, GREATEST};
    private static final int[] LIMITS = {LEAST, 0, 1, 2, 8, 9};
    private static final long[] MOSTS = {Long.MIN_VALUE, -1, 0, PlainHerd.ONE / 4 - 1, PlainHerd.ONE / 4, Long.MAX_VALUE};
    private static final int CALLS_PER_OBJECT = 400;

    private final Check check = new Check();

    public static void main(String[] args) {
        SweepTest test = new SweepTest();
        Script[] books = {
            Script.empty(), Books.oneBull(), Books.oneCow(), Books.siblings(), Books.family(), Books.full(), Books.deep(),
        };
        for (Script book : books) {
            test.questions(book);
            test.enter(book);
            test.correct(book);
            test.cull(book);
            test.plan(book);
        }
        test.check.end();
    }

    /** Every so manieth animal, the last, and numbers on either side that are none. */
    private static List<Integer> numbers(int animals, int step) {
        List<Integer> numbers = new ArrayList<>(List.of(LEAST, LEAST + 1, -2, -1));
        for (int a = 0; a < animals; a++) {
            if (a % step == 0 || a == animals - 1) {
                numbers.add(a);
            }
        }
        for (int beyond : new int[] {animals, animals + 1, animals + 32, GREATEST - 1, GREATEST}) {
            numbers.add(beyond);
        }
        return numbers;
    }

    private void questions(Script book) {
        List<NamedCall> calls = new ArrayList<>();
        for (int a : numbers(book.animals(), 1)) {
            for (String name : Whole.OF_ONE) {
                calls.add(new NamedCall(name, a));
            }
            for (int what : WHATS) {
                calls.add(new NamedCall("of", a, what));
            }
            for (int b : numbers(book.animals(), 1)) {
                for (String name : Whole.OF_TWO) {
                    calls.add(new NamedCall(name, a, b));
                }
            }
        }
        for (int from = 0; from < calls.size(); from += CALLS_PER_OBJECT) {
            makeInTurn(book, calls.subList(from, Math.min(calls.size(), from + CALLS_PER_OBJECT)));
        }
    }

    private void enter(Script book) {
        List<Integer> parents = numbers(book.animals(), 4);
        for (int sire : parents) {
            for (int dam : parents) {
                for (int sex : SEXES) {
                    for (int year : YEARS) {
                        makeOnce(book, new NamedCall("enter", sire, dam, sex, year));
                    }
                }
            }
        }
    }

    private void correct(Script book) {
        for (int a : numbers(book.animals(), 3)) {
            for (int sire : numbers(book.animals(), 2)) {
                for (int dam : numbers(book.animals(), 3)) {
                    makeOnce(book, new NamedCall("correct", a, sire, dam));
                }
            }
        }
    }

    private void cull(Script book) {
        for (int a : numbers(book.animals(), 1)) {
            makeOnce(book, new NamedCall("cull", a));
        }
    }

    private void plan(Script book) {
        for (int cows : sets(book.animals())) {
            for (int limit : LIMITS) {
                for (long most : MOSTS) {
                    makeOnce(book, new NamedCall("plan", cows, limit, most));
                }
            }
        }
    }

    /** Sets of none to six and of all bits, within the book, across its end and beyond it. */
    private static List<Integer> sets(int animals) {
        List<Integer> sets = new ArrayList<>(List.of(0, -1, LEAST, GREATEST));
        for (int size = 1; size <= 6; size++) {
            for (int step = 1; step <= 3; step++) {
                for (int first = 0; first < 32; first += animals == 0 ? 8 : 3) {
                    int set = 0;
                    for (int i = 0; i < size; i++) {
                        set |= 1 << Math.min(31, first + i * step);
                    }
                    sets.add(set);
                }
            }
        }
        sets.add(Books.set(1, 7, 8, 10, 12));
        sets.add(Books.set(1, 7, 8, 10, 11, 12));
        sets.add(Books.set(1, 8, 14, 20, 23));
        sets.add(Books.set(1, 9, 15, 21, 23));
        return sets;
    }

    private void makeInTurn(Script book, List<NamedCall> calls) {
        PlainHerd plain = book.plain();
        HerdKinship program = book.program();
        for (NamedCall call : calls) {
            check.text(call + " of " + book.animals(), call.answerOf(plain), call.answerOf(program));
        }
    }

    /** The call on a book of its own, and what can be told of the book then by a few questions. */
    private void makeOnce(Script book, NamedCall call) {
        List<NamedCall> calls = new ArrayList<>(List.of(call, new NamedCall("animals"), new NamedCall("herd")));
        calls.add(new NamedCall("planned"));
        int last = book.animals() - 1;
        for (int a : new int[] {0, last / 2, last}) {
            calls.add(new NamedCall("bull", a));
            calls.add(new NamedCall("of", a, 4));
            calls.add(new NamedCall("ancestors", a));
        }
        makeInTurn(book, calls);
    }
}
