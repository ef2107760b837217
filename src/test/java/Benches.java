/** Benches that tests begin with: of their 512 calls, enough are left to try some and to look at the bench then. */
final class Benches {
    static final int MOST_CALLS = 512;
    static final int CALLS_OF_FULL = 283;

    static final int THROUGH = MarbleBench.THROUGH, ALONG = MarbleBench.ALONG, BACK = MarbleBench.BACK;
    static final int UP = MarbleBench.UP, DOWN = MarbleBench.DOWN;

    static final Checks.Setup EMPTY = bench -> { };

    /**
     * Prints 0 and 1; a bath with both strengths; the old book 0 with a thread inside, at the gathering 1 and the
     * station 2, after 8 moves; the book 1, not old, with a new thread; skins 0 and 1, the latter one pared.
     */
    static final Checks.Setup USED = bench -> {
        inks(bench);
        bench.book(3, 5, 4, 2, true);
        sew(bench, 0, THROUGH, ALONG, BACK, ALONG, THROUGH, UP, THROUGH, ALONG);
        bench.back(0, MarbleBench.FLEX);
        bench.repair(0, 1);
        bench.repair(0, 0);
        bench.speak(0, 1500, 1600, 3);
        bench.speak(0, 1550, 1700, 3);
        bench.book(1, 2, 3, 1, false);
        bench.repair(1, 2);
        bench.repair(1, 4);
        bench.skin(8);
        bench.skin(14);
        bench.pare(1, 2, 3, 4, 5, 9);
    };

    /**
     * 10 prints, 4 books and 3 skins. The book 0, not old, has 200 moves (its thread could go each way if it had
     * fewer), 20 repairs, the latest of which can be undone, and 20 that speak; the old book 1 has 20 repairs.
     */
    static final Checks.Setup FULL = bench -> {
        inks(bench);
        for (int print = 2; print < 10; print++) {
            bench.lift();
        }
        bench.drop(4, 4, 3, 10);
        bench.book(3, 5, 4, 2, false);
        bench.book(8, 16, 6, 9, true);
        bench.book(1, 2, 3, 1, false);
        bench.book(2, 3, 5, 4, true);
        sew(bench, 0, ALONG, UP, THROUGH, THROUGH);
        for (int moves = 4; moves < 200; moves += 4) {
            sew(bench, 0, THROUGH, ALONG, BACK, THROUGH);
        }
        for (int i = 0; i < 20; i++) {
            bench.repair(0, 4 - i % 5);
            bench.repair(1, i % 3);
            bench.speak(0, 1400 + 10 * i, 1600 + i, 1 + i % 9);
        }
        bench.skin(8);
        bench.skin(30);
        bench.skin(19);
        bench.pare(2, 0, 4, 1, 7, 10);
    };

    private Benches() {
    }

    private static void inks(MarbleBench bench) {
        bench.drop(3, 3, 2, 20);
        bench.drop(5, 5, 4, 9);
        bench.lift();
        bench.drop(0, 7, 1, 7);
        bench.lift();
        bench.drop(4, 4, 3, 10);
    }

    static void sew(MarbleBench bench, int book, int... moves) {
        for (int move : moves) {
            bench.sew(book, move);
        }
    }

    /** A bench with one book. */
    static MarbleBench withBook(int gatherings, int leaves, int stations, int thickness, boolean isOld) {
        MarbleBench bench = new MarbleBench();
        bench.book(gatherings, leaves, stations, thickness, isOld);
        return bench;
    }

    /** A bench with a book of so many gatherings and stations, whose thread has made these moves. */
    static Checks.Setup sewn(int gatherings, int stations, int... moves) {
        return bench -> {
            bench.book(gatherings, 2, stations, 1, false);
            sew(bench, 0, moves);
        };
    }

    static Checks.Setup then(Checks.Setup first, Checks.Setup second) {
        return bench -> {
            first.on(bench);
            second.on(bench);
        };
    }
}
