/** "An object is used for at most 512 calls after it has been made": every one of them, up to the last, is answered. */
public final class CallsTest {
    private static final int NONE = HerdKinship.NONE;
    private static final long ANY = Long.MAX_VALUE;
    private static final int CALLS = 512;

    private final Check check = new Check();

    public static void main(String[] args) {
        CallsTest test = new CallsTest();
        test.questions();
        test.refusals();
        test.changes();
        test.twoObjectsInTurn();
        test.check.end();
    }

    /** The calls again and again, in turn, until the object is used up. */
    private void untilTheLast(Script book, NamedCall... calls) {
        HerdKinship program = book.program();
        PlainHerd plain = book.plain();
        for (int made = book.length(); made < CALLS; made++) {
            NamedCall call = calls[made % calls.length];
            check.text(call + " as call " + (made + 1), call.answerOf(plain), call.answerOf(program));
        }
    }

    private void untilTheLast(Script book, String name, long... arguments) {
        untilTheLast(book, new NamedCall(name, arguments));
    }

    private void questions() {
        Script full = Books.full();
        for (String name : Whole.OF_THE_HERD) {
            untilTheLast(full, name);
            untilTheLast(Script.empty(), name);
        }
        for (String name : Whole.OF_ONE) {
            untilTheLast(full, name, 23);
        }
        for (String name : Whole.OF_TWO) {
            untilTheLast(full, name, 0, 23);
        }
        untilTheLast(full, "inHerd", 0);
        untilTheLast(full, "of", 23, 5);
    }

    private void refusals() {
        Script full = Books.full();
        untilTheLast(full, "enter", NONE, NONE, 0, 0);
        untilTheLast(full, "correct", 23, 24, NONE);
        untilTheLast(full, "cull", 3);
        untilTheLast(full, "of", 0, 6);
        untilTheLast(full, "share", 23, 0);
        untilTheLast(full, "plan", Books.set(1), 0, ANY);
        untilTheLast(Script.empty(), "enter", NONE, NONE, 2, 0);
        untilTheLast(Script.empty(), "kinship", 0, 0);
    }

    private void changes() {
        Script full = Books.full();
        NamedCall sum = new NamedCall("planned");
        NamedCall away = new NamedCall("correct", 14, NONE, NONE);
        NamedCall back = new NamedCall("correct", 14, 9, 8);
        untilTheLast(full, away, sum, back, sum, new NamedCall("herd"));
        NamedCall some = new NamedCall("plan", Books.set(8, 14, 20, 23), 1, ANY);
        NamedCall none = new NamedCall("plan", Books.set(8, 14, 20, 23), 1, 0);
        untilTheLast(full, some, sum, none, sum, new NamedCall("bull", 23));
        untilTheLast(full, "plan", Books.set(1, 5, 8, 14, 23), 2, ANY);
        untilTheLast(Books.founders(12, 12), "plan", 0xf80000, 1, 0);
        untilTheLast(Script.empty(), "plan", 0, 1, 0);
        untilTheLast(Script.empty(), "enter", NONE, NONE, 1, 60);
    }

    /** What is done to one object is not seen in another. */
    private void twoObjectsInTurn() {
        HerdKinship x = Books.family().program();
        HerdKinship y = Books.full().program();
        PlainHerd plainX = Books.family().plain();
        PlainHerd plainY = Books.full().plain();
        NamedCall[] calls = {
            new NamedCall("plan", Books.set(8), 1, ANY), new NamedCall("share", 0, 8), new NamedCall("lines", 0, 9),
            new NamedCall("correct", 4, NONE, NONE), new NamedCall("share", 0, 8), new NamedCall("lines", 0, 9),
            new NamedCall("cull", 9), new NamedCall("planned"), new NamedCall("bull", 8), new NamedCall("herd"),
            new NamedCall("enter", 2, 7, 0, 60), new NamedCall("animals"), new NamedCall("closest", 12),
        };
        for (NamedCall call : calls) {
            check.text(call + " of the first", call.answerOf(plainX), call.answerOf(x));
        }
        for (NamedCall call : calls) {
            check.text(call + " of the second", call.answerOf(plainY), call.answerOf(y));
            NamedCall again = new NamedCall("planned");
            check.text(again + " of the first", again.answerOf(plainX), again.answerOf(x));
        }
    }
}
