/** The books that several tests need. */
final class Books {
    private static final int NONE = HerdKinship.NONE;
    private static final long ANY = Long.MAX_VALUE;

    private Books() {
    }

    static Script oneBull() {
        return Script.empty().bull(0);
    }

    static Script oneCow() {
        return Script.empty().cow(60);
    }

    /** So many bulls without parents, and behind them so many cows. */
    static Script founders(int bulls, int cows) {
        Script book = Script.empty();
        for (int i = 0; i < bulls + cows; i++) {
            book = i < bulls ? book.bull(0) : book.cow(0);
        }
        return book;
    }

    /** 0 bull and 1 cow, founders; 2 bull and 3 cow, theirs; 4 bull and 5 cow of 2 and 3. */
    static Script siblings() {
        return Script.empty().bull(0).cow(0).enter(0, 1, 0, 2).enter(0, 1, 1, 2).enter(2, 3, 0, 4).enter(2, 3, 1, 4);
    }

    /**
     * The siblings; 6 bull and 7 cow, older founders with greater numbers; 8 cow without a dam; 9 bull
     * without a sire; 10 cow of the last year; 11 and 12 cows. 3 and 6 were culled before the list was
     * made, 0 and 5, which are in it, since. Six cows live: 1, 7, 8, 10, 11 and 12.
     */
    static Script family() {
        return thirteen().cull(3).cull(6).plan(1 << 1 | 1 << 5 | 1 << 8, 1, ANY).cull(0).cull(5);
    }

    /** 24 animals, the last a cow; ten lines of it are deeply inbred. 8, 14, 18, 20 and 23 are in the list. */
    static Script full() {
        Script book = thirteen().enter(9, 8, 0, 8).enter(9, 8, 1, 8).enter(13, 14, 0, 9).enter(13, 14, 1, 9);
        book = book.enter(15, 16, 0, 10).enter(15, 16, 1, 10).enter(17, NONE, 0, 11).enter(NONE, 18, 1, 11);
        book = book.enter(4, 5, 0, 5).bull(0).enter(19, 20, 1, 12);
        book = book.cull(3).cull(6).cull(15).cull(16);
        return book.plan(1 << 8 | 1 << 14 | 1 << 18 | 1 << 20 | 1 << 23, 2, ANY).cull(18).cull(22);
    }

    /** Each of the last bull and the last cow: as deep and as inbred as 24 animals can be. */
    static Script deep() {
        Script book = Script.empty().bull(0).cow(1);
        for (int a = 2; a < 24; a++) {
            book = book.enter(a - 2 + a % 2, a - 1 - a % 2, a % 2, a);
        }
        return book;
    }

    static int set(int... animals) {
        int bits = 0;
        for (int a : animals) {
            bits |= 1 << a;
        }
        return bits;
    }

    private static Script thirteen() {
        Script book = siblings().bull(1).cow(1).enter(4, NONE, 1, 6).enter(NONE, 5, 0, 6);
        return book.enter(6, 7, 1, 60).cow(0).cow(0);
    }
}
