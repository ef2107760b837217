/** Promises 11 to 16: books and their threads. */
final class SewingTest {
    private static final int THROUGH = MarbleBench.THROUGH, ALONG = MarbleBench.ALONG, BACK = MarbleBench.BACK;
    private static final int UP = MarbleBench.UP, DOWN = MarbleBench.DOWN;
    private static final int[] WRONG_BOOKS = {-1, 2, 4, Integer.MIN_VALUE, Integer.MAX_VALUE};

    /** Two books; the thread of the first one is inside at the gathering 1 and the station 2. */
    private static final Checks.Setup BEGUN = bench -> {
        bench.book(3, 4, 4, 2, true);
        bench.book(1, 2, 3, 1, false);
        sewAll(bench, 0, THROUGH, ALONG, ALONG, THROUGH, UP, THROUGH);
        sewAll(bench, 1, ALONG);
    };
    private static final Checks.Setup ALL_BOOKS = bench -> {
        for (int i = 0; i < 4; i++) {
            bench.book(8, 16, 6, 9, true);
        }
    };
    private static final Checks.Setup ALL_MOVES = bench -> {
        bench.book(2, 4, 3, 1, false);
        for (int i = 0; i < 200; i++) {
            bench.sew(0, THROUGH);
        }
    };

    private SewingTest() {
    }

    static void run(Checks checks) {
        books(checks);
        bookRefused(checks);
        lengths(checks);
        wayOfThread(checks);
        stitchesInsideOnly(checks);
        sewRefused(checks);
        mostMoves(checks);
        takenBack(checks);
        takenBackStitchesAndLinks(checks);
        unsewRefused(checks);
        threadRefused(checks);
        sewnBook(checks);
        sewnThree(checks);
        held(checks);
        gatheringsApart(checks);
        askedRefused(checks);
    }

    static void sewAll(MarbleBench bench, int book, int... moves) {
        for (int move : moves) {
            bench.sew(book, move);
        }
    }

    private static void thread(Checks checks, String what, MarbleBench bench, int book, int... due) {
        String[] names = {"length", "gathering", "station", "inside", "moves", "sewn"};
        for (int i = 0; i < due.length; i++) {
            checks.due(what + ": " + names[i], due[i], bench.ofThread(book, i));
        }
    }

    private static void books(Checks checks) {
        MarbleBench bench = new MarbleBench();
        checks.due("book 0", 0, bench.book(1, 2, 3, 1, true));
        checks.due("book 1", 1, bench.book(8, 16, 6, 9, false));
        checks.due("book 2", 2, bench.book(1, 16, 3, 9, true));
        checks.due("book 3", 3, bench.book(8, 2, 6, 1, false));
        thread(checks, "a new book", bench, 3, 0, 0, 0, 0, 0, 0);
        bench.sew(1, ALONG);
        thread(checks, "another book's thread", bench, 3, 0, 0, 0, 0, 0, 0);
        thread(checks, "its own thread", bench, 1, 10, 0, 1, 0, 1, 0);
    }

    private static void bookRefused(Checks checks) {
        for (int wrong : new int[] {0, -1, 9, Integer.MIN_VALUE, Integer.MAX_VALUE}) {
            checks.refuses("book gatherings " + wrong, Checks.ARGUMENT, BEGUN, b -> b.book(wrong, 2, 3, 1, true));
        }
        for (int wrong : new int[] {1, 0, -1, 17, Integer.MIN_VALUE, Integer.MAX_VALUE}) {
            checks.refuses("book leaves " + wrong, Checks.ARGUMENT, BEGUN, b -> b.book(1, wrong, 3, 1, true));
        }
        for (int wrong : new int[] {2, 0, -1, 7, Integer.MIN_VALUE, Integer.MAX_VALUE}) {
            checks.refuses("book stations " + wrong, Checks.ARGUMENT, BEGUN, b -> b.book(1, 2, wrong, 1, true));
        }
        for (int wrong : new int[] {0, -1, 10, Integer.MIN_VALUE, Integer.MAX_VALUE}) {
            checks.refuses("book thickness " + wrong, Checks.ARGUMENT, BEGUN, b -> b.book(1, 2, 3, wrong, true));
            checks.refuses("thickness before a fifth book", Checks.ARGUMENT, ALL_BOOKS,
                    b -> b.book(1, 2, 3, wrong, false));
        }
        checks.refuses("a fifth book", Checks.STATE, ALL_BOOKS, b -> b.book(1, 2, 3, 1, false));
    }

    private static void lengths(Checks checks) {
        MarbleBench bench = new MarbleBench();
        bench.book(2, 4, 3, 1, false);
        int[] moves = {THROUGH, ALONG, THROUGH, ALONG, BACK, UP, ALONG, THROUGH, BACK, BACK, THROUGH, DOWN};
        int[] due = {0, 10, 10, 20, 30, 34, 44, 44, 54, 64, 64, 68};
        for (int i = 0; i < moves.length; i++) {
            checks.due("length after move " + i, due[i], bench.sew(0, moves[i]));
        }
        thread(checks, "after all", bench, 0, 68, 0, 0, 0, 12, 1);
    }

    private static void wayOfThread(Checks checks) {
        MarbleBench bench = Checks.made(BEGUN);
        thread(checks, "inside", bench, 0, 24, 1, 2, 1, 6, 0);
        bench.sew(0, BACK);
        thread(checks, "one back", bench, 0, 34, 1, 1, 1, 7, 0);
        bench.sew(0, THROUGH);
        thread(checks, "outside", bench, 0, 34, 1, 1, 0, 8, 0);
        bench.sew(0, DOWN);
        thread(checks, "down", bench, 0, 38, 0, 1, 0, 9, 0);
    }

    private static void stitchesInsideOnly(Checks checks) {
        MarbleBench bench = new MarbleBench();
        bench.book(2, 4, 4, 1, false);
        sewAll(bench, 0, ALONG, BACK, THROUGH, ALONG, ALONG, BACK, ALONG, THROUGH, ALONG, BACK, UP, THROUGH, BACK);
        int[][] due = {{1, 3, 0}, {0, 1, 0}};
        for (int gathering = 0; gathering < 2; gathering++) {
            for (int part = 0; part < 3; part++) {
                String where = "stitches at gathering " + gathering + ", part " + part;
                checks.due(where, due[gathering][part], bench.stitches(0, gathering, part));
            }
        }
        MarbleBench large = new MarbleBench();
        large.book(8, 16, 6, 9, false);
        sewAll(large, 0, ALONG, ALONG, ALONG, ALONG, ALONG, UP, UP, UP, UP, UP, UP, UP, THROUGH, BACK);
        checks.due("stitches at the last part", 1, large.stitches(0, 7, 4));
        checks.due("stitches at the part before", 0, large.stitches(0, 7, 3));
        checks.due("stitches at the gathering before", 0, large.stitches(0, 6, 4));
    }

    private static void sewRefused(Checks checks) {
        for (int wrong : WRONG_BOOKS) {
            checks.refuses("sew book " + wrong, Checks.PLACE, BEGUN, b -> b.sew(wrong, THROUGH));
            checks.refuses("sew book before move", Checks.PLACE, BEGUN, b -> b.sew(wrong, 5));
        }
        for (int wrong : new int[] {-1, 5, Integer.MIN_VALUE, Integer.MAX_VALUE}) {
            checks.refuses("sew move " + wrong, Checks.ARGUMENT, BEGUN, b -> b.sew(0, wrong));
            checks.refuses("sew move before 200 moves", Checks.ARGUMENT, ALL_MOVES, b -> b.sew(0, wrong));
        }
        Checks.Setup fresh = bench -> bench.book(2, 4, 3, 1, false);
        checks.refuses("before the first station", Checks.STATE, fresh, b -> b.sew(0, BACK));
        checks.refuses("below the first gathering", Checks.STATE, fresh, b -> b.sew(0, DOWN));
        Checks.Setup atEnd = bench -> {
            bench.book(2, 4, 3, 1, false);
            sewAll(bench, 0, ALONG, ALONG, UP);
        };
        checks.refuses("beyond the last station", Checks.STATE, atEnd, b -> b.sew(0, ALONG));
        checks.refuses("above the last gathering", Checks.STATE, atEnd, b -> b.sew(0, UP));
        checks.refuses("up inside", Checks.STATE, BEGUN, b -> b.sew(0, UP));
        checks.refuses("down inside", Checks.STATE, BEGUN, b -> b.sew(0, DOWN));
        Checks.Setup insideAtEnd = bench -> {
            bench.book(1, 2, 3, 1, false);
            sewAll(bench, 0, THROUGH, ALONG, ALONG);
        };
        checks.refuses("beyond the last station inside", Checks.STATE, insideAtEnd, b -> b.sew(0, ALONG));
    }

    private static void mostMoves(Checks checks) {
        for (int move = THROUGH; move <= DOWN; move++) {
            int tried = move;
            checks.refuses("move 201, " + move, Checks.STATE, ALL_MOVES, b -> b.sew(0, tried));
        }
        MarbleBench bench = Checks.made(ALL_MOVES);
        checks.due("200 moves", 200, bench.ofThread(0, 4));
        checks.due("one taken back", 0, bench.unsew(0, 1));
        checks.due("one more", 10, bench.sew(0, ALONG));
        checks.due("all taken back", 0, bench.unsew(0, 200));
        thread(checks, "all taken back", bench, 0, 0, 0, 0, 0, 0, 0);
    }

    private static void takenBack(Checks checks) {
        int[] moves = {THROUGH, ALONG, ALONG, BACK, THROUGH, UP, ALONG, THROUGH, BACK, THROUGH, UP, DOWN, BACK, DOWN};
        for (int many = 1; many <= moves.length; many++) {
            int back = many;
            int[] first = java.util.Arrays.copyOf(moves, moves.length - many);
            Checks.Setup fewer = Benches.sewn(3, 4, first);
            Checks.Setup all = Benches.sewn(3, 4, moves);
            int length = Checks.made(fewer).ofThread(0, 0);
            checks.answers("length with " + many + " taken back", length, all, b -> b.unsew(0, back));
            checks.alike(many + " moves taken back", fewer, Benches.then(all, b -> b.unsew(0, back)));
        }
    }

    private static void takenBackStitchesAndLinks(Checks checks) {
        MarbleBench bench = new MarbleBench();
        bench.book(2, 4, 3, 1, false);
        sewAll(bench, 0, THROUGH, ALONG, BACK, ALONG, THROUGH, UP, THROUGH, BACK, THROUGH);
        checks.due("sewn", 1, bench.ofThread(0, 5));
        sewAll(bench, 0, DOWN);
        checks.due("still sewn", 1, bench.ofThread(0, 5));
        bench.unsew(0, 1);
        checks.due("sewn by the other link", 1, bench.ofThread(0, 5));
        checks.due("three stitches", 3, bench.stitches(0, 0, 0));
        checks.due("back to the first gathering", 30, bench.unsew(0, 4));
        checks.due("three stitches stay", 3, bench.stitches(0, 0, 0));
        checks.due("no stitch above", 0, bench.stitches(0, 1, 0));
        sewAll(bench, 0, THROUGH);
        checks.due("two stitches less", 10, bench.unsew(0, 4));
        checks.due("one stitch", 1, bench.stitches(0, 0, 0));
        thread(checks, "after unsew", bench, 0, 10, 0, 1, 1, 2, 0);
    }

    private static void unsewRefused(Checks checks) {
        for (int wrong : WRONG_BOOKS) {
            checks.refuses("unsew book " + wrong, Checks.PLACE, BEGUN, b -> b.unsew(wrong, 1));
            checks.refuses("unsew book before many", Checks.PLACE, BEGUN, b -> b.unsew(wrong, 0));
        }
        for (int wrong : new int[] {0, -1, 201, Integer.MIN_VALUE, Integer.MAX_VALUE}) {
            checks.refuses("unsew many " + wrong, Checks.ARGUMENT, BEGUN, b -> b.unsew(0, wrong));
        }
        checks.refuses("unsew one more than there are", Checks.STATE, BEGUN, b -> b.unsew(0, 7));
        checks.refuses("unsew 200", Checks.STATE, BEGUN, b -> b.unsew(0, 200));
        checks.due("unsew all there are", 0, Checks.made(BEGUN).unsew(0, 6));
        checks.refuses("unsew of a new book", Checks.STATE, ALL_BOOKS, b -> b.unsew(3, 1));
    }

    private static void threadRefused(Checks checks) {
        for (int wrong : WRONG_BOOKS) {
            checks.refuses("ofThread book " + wrong, Checks.PLACE, BEGUN, b -> b.ofThread(wrong, 0));
            checks.refuses("ofThread book before what", Checks.PLACE, BEGUN, b -> b.ofThread(wrong, 6));
        }
        for (int wrong : new int[] {-1, 6, Integer.MIN_VALUE, Integer.MAX_VALUE}) {
            checks.refuses("ofThread what " + wrong, Checks.ARGUMENT, BEGUN, b -> b.ofThread(0, wrong));
        }
    }

    private static void sewnBook(Checks checks) {
        MarbleBench one = new MarbleBench();
        one.book(1, 2, 3, 1, false);
        checks.due("no stitch", 0, one.ofThread(0, 5));
        sewAll(one, 0, THROUGH, ALONG);
        checks.due("inside", 0, one.ofThread(0, 5));
        sewAll(one, 0, THROUGH);
        checks.due("one gathering needs no link", 1, one.ofThread(0, 5));

        MarbleBench two = new MarbleBench();
        two.book(2, 2, 3, 1, false);
        sewAll(two, 0, UP, THROUGH, ALONG, THROUGH);
        checks.due("the lower gathering is not held", 0, two.ofThread(0, 5));
        sewAll(two, 0, DOWN, THROUGH, ALONG);
        checks.due("both held, but inside", 0, two.ofThread(0, 5));
        sewAll(two, 0, THROUGH);
        checks.due("both held, outside", 1, two.ofThread(0, 5));
    }

    /** A thread comes to a gathering by its links alone: one that is held is linked with all below it. */
    private static void sewnThree(Checks checks) {
        MarbleBench bench = new MarbleBench();
        bench.book(3, 2, 3, 1, false);
        sewAll(bench, 0, THROUGH, ALONG, THROUGH, UP, THROUGH, BACK, THROUGH, UP, THROUGH, ALONG);
        checks.due("inside at the end", 0, bench.ofThread(0, 5));
        sewAll(bench, 0, THROUGH);
        checks.due("all linked", 1, bench.ofThread(0, 5));
        bench.unsew(0, 4);
        checks.due("the third is not held", 0, bench.ofThread(0, 5));
        checks.due("the second is", 1, Checks.bit(bench.isHeld(0, 1)));
    }

    /** How many stitched parts hold a gathering: half of its stations, rounded down. */
    private static void held(Checks checks) {
        int[] wanted = {0, 0, 0, 1, 2, 2, 3};
        for (int stations = 3; stations <= 6; stations++) {
            MarbleBench bench = new MarbleBench();
            bench.book(1, 2, stations, 1, false);
            checks.due("held without a stitch", 0, Checks.bit(bench.isHeld(0, 0)));
            sewAll(bench, 0, THROUGH, ALONG, BACK, ALONG, BACK);
            checks.due("many stitches at one part", stations == 3 ? 1 : 0, Checks.bit(bench.isHeld(0, 0)));
            for (int parts = 1; parts < stations; parts++) {
                bench.sew(0, ALONG);
                String what = parts + " parts of " + stations + " stations";
                checks.due(what, parts >= wanted[stations] ? 1 : 0, Checks.bit(bench.isHeld(0, 0)));
            }
        }
        MarbleBench bench = Checks.made(BEGUN);
        checks.due("held at the first gathering", 1, Checks.bit(bench.isHeld(0, 0)));
        checks.due("not at the second", 0, Checks.bit(bench.isHeld(0, 1)));
        checks.due("not at the third", 0, Checks.bit(bench.isHeld(0, 2)));
    }

    /** With 6 stations, the stitches at a gathering are not those at the next one. */
    private static void gatheringsApart(Checks checks) {
        MarbleBench bench = new MarbleBench();
        bench.book(2, 2, 6, 1, false);
        sewAll(bench, 0, THROUGH, ALONG, ALONG, BACK, BACK, THROUGH, UP, THROUGH, ALONG, BACK, ALONG, BACK);
        checks.due("two parts of the lower gathering", 0, Checks.bit(bench.isHeld(0, 0)));
        checks.due("one part of the upper gathering", 0, Checks.bit(bench.isHeld(0, 1)));
        checks.due("2 stitches below and 4 above", 3 * (2 + 4), bench.swelling(0));
    }

    private static void askedRefused(Checks checks) {
        for (int wrong : WRONG_BOOKS) {
            checks.refuses("stitches book " + wrong, Checks.PLACE, BEGUN, b -> b.stitches(wrong, 0, 0));
            checks.refuses("isHeld book " + wrong, Checks.PLACE, BEGUN, b -> Checks.bit(b.isHeld(wrong, 0)));
        }
        for (int wrong : new int[] {-1, 3, Integer.MIN_VALUE, Integer.MAX_VALUE}) {
            checks.refuses("stitches gathering " + wrong, Checks.PLACE, BEGUN, b -> b.stitches(0, wrong, 0));
            checks.refuses("stitches part " + wrong, Checks.PLACE, BEGUN, b -> b.stitches(0, 0, wrong));
            checks.refuses("isHeld gathering " + wrong, Checks.PLACE, BEGUN, b -> Checks.bit(b.isHeld(0, wrong)));
        }
        checks.refuses("gathering 1 of one", Checks.PLACE, BEGUN, b -> b.stitches(1, 1, 0));
        checks.refuses("part 2 of two", Checks.PLACE, BEGUN, b -> b.stitches(1, 0, 2));
        checks.due("the last part of two", 0, Checks.made(BEGUN).stitches(1, 0, 1));
    }
}
