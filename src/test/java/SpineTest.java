/** Promises 17 to 21: spines and openings. */
final class SpineTest {
    private static final int TIGHT = MarbleBench.TIGHT, HOLLOW = MarbleBench.HOLLOW, FLEX = MarbleBench.FLEX;
    private static final int[] WRONG_BOOKS = {-1, 2, 4, Integer.MIN_VALUE, Integer.MAX_VALUE};

    /** Two books; the first one has 15 leaves and a swelling of 9. */
    private static final Checks.Setup TWO_BOOKS = bench -> {
        bench.book(3, 5, 4, 2, false);
        bench.book(1, 2, 3, 1, true);
        SewingTest.sewAll(bench, 0, 0, 1, 2, 1, 1, 0, 3);
        bench.back(0, FLEX);
    };

    private SpineTest() {
    }

    static void run(Checks checks) {
        backs(checks);
        backRefused(checks);
        swellings(checks);
        strains(checks);
        strainRefused(checks);
        worstOpenings(checks);
        openings(checks);
        opensRefused(checks);
    }

    private static void backs(Checks checks) {
        MarbleBench bench = Checks.made(TWO_BOOKS);
        checks.due("back of a new book", TIGHT, bench.back(1, HOLLOW));
        checks.due("then hollow", HOLLOW, bench.back(1, FLEX));
        checks.due("then flex", FLEX, bench.back(1, FLEX));
        checks.due("still flex", FLEX, bench.back(1, TIGHT));
        checks.due("the other book's back", FLEX, bench.back(0, TIGHT));
        checks.due("tight again", TIGHT, bench.back(1, TIGHT));
    }

    private static void backRefused(Checks checks) {
        for (int wrong : WRONG_BOOKS) {
            checks.refuses("back of book " + wrong, Checks.PLACE, TWO_BOOKS, b -> b.back(wrong, 0));
            checks.refuses("back of book before back", Checks.PLACE, TWO_BOOKS, b -> b.back(wrong, 3));
        }
        for (int wrong : new int[] {-1, 3, Integer.MIN_VALUE, Integer.MAX_VALUE}) {
            checks.refuses("back " + wrong, Checks.ARGUMENT, TWO_BOOKS, b -> b.back(0, wrong));
        }
    }

    private static void swellings(Checks checks) {
        MarbleBench bench = Checks.made(TWO_BOOKS);
        checks.due("swelling of 3 stitches at one part", 9, bench.swelling(0));
        checks.due("swelling of a new book", 0, bench.swelling(1));
        SewingTest.sewAll(bench, 0, 0, 1);
        checks.due("one stitch at the next gathering", 12, bench.swelling(0));
        SewingTest.sewAll(bench, 0, 2);
        checks.due("two at the same part", 15, bench.swelling(0));
        SewingTest.sewAll(bench, 0, 2);
        checks.due("one at another part swells no more", 15, bench.swelling(0));
        bench.unsew(0, 2);
        checks.due("stitches taken back", 12, bench.swelling(0));
        for (int wrong : WRONG_BOOKS) {
            checks.refuses("swelling of book " + wrong, Checks.PLACE, TWO_BOOKS, b -> b.swelling(wrong));
        }
    }

    private static void strains(Checks checks) {
        int[] times = {4, 1, 2};
        for (int back = TIGHT; back <= FLEX; back++) {
            MarbleBench bench = Checks.made(TWO_BOOKS);
            bench.back(0, back);
            for (int opening = 0; opening <= 15; opening++) {
                int lesser = opening < 8 ? opening : 15 - opening;
                String what = "strain of opening " + opening + " with back " + back;
                checks.due(what, lesser * 2 * times[back] + 9, bench.strain(0, opening));
            }
        }
        MarbleBench thick = new MarbleBench();
        thick.book(8, 16, 6, 9, false);
        checks.due("strain of the middle of the thickest book", 64 * 9 * 4, thick.strain(0, 64));
        checks.due("strain of its last opening", 0, thick.strain(0, 128));
    }

    private static void strainRefused(Checks checks) {
        for (int wrong : WRONG_BOOKS) {
            checks.refuses("strain of book " + wrong, Checks.PLACE, TWO_BOOKS, b -> b.strain(wrong, 0));
            checks.refuses("strain of book before opening", Checks.PLACE, TWO_BOOKS, b -> b.strain(wrong, -1));
        }
        for (int wrong : new int[] {-1, 16, Integer.MIN_VALUE, Integer.MAX_VALUE}) {
            checks.refuses("strain of opening " + wrong, Checks.ARGUMENT, TWO_BOOKS, b -> b.strain(0, wrong));
        }
        checks.refuses("opening 3 of 2 leaves", Checks.ARGUMENT, TWO_BOOKS, b -> b.strain(1, 3));
    }

    private static void worstOpenings(Checks checks) {
        for (int back = TIGHT; back <= FLEX; back++) {
            MarbleBench bench = Checks.made(TWO_BOOKS);
            bench.back(0, back);
            checks.due("worst of 15 leaves", 7, bench.worst(0));
            checks.due("worst of 2 leaves", 1, bench.worst(1));
        }
        MarbleBench thick = new MarbleBench();
        thick.book(8, 16, 6, 9, false);
        checks.due("worst of 128 leaves", 64, thick.worst(0));
        for (int wrong : WRONG_BOOKS) {
            checks.refuses("worst of book " + wrong, Checks.PLACE, TWO_BOOKS, b -> b.worst(wrong));
        }
    }

    /** With FLEX, the strains of the first book are 9, 13, 17, 21, 25, 29, 33, 37 and the same back again. */
    private static void openings(Checks checks) {
        MarbleBench bench = Checks.made(TWO_BOOKS);
        int[] bounds = {0, 8, 9, 12, 13, 36, 37, 100000};
        int[] due = {0, 0, 2, 2, 4, 14, 16, 16};
        for (int i = 0; i < bounds.length; i++) {
            checks.due("opens within " + bounds[i], due[i], bench.opens(0, bounds[i]));
        }
        bench.back(0, HOLLOW);
        checks.due("opens within 13 with a hollow back", 6, bench.opens(0, 13));
        bench.back(0, TIGHT);
        checks.due("opens within 17 with a tight back", 4, bench.opens(0, 17));
        checks.due("opens of a new book within 0", 2, bench.opens(1, 0));
        checks.due("opens of a new book within 4", 3, bench.opens(1, 4));
    }

    private static void opensRefused(Checks checks) {
        for (int wrong : WRONG_BOOKS) {
            checks.refuses("opens of book " + wrong, Checks.PLACE, TWO_BOOKS, b -> b.opens(wrong, 0));
            checks.refuses("opens of book before bound", Checks.PLACE, TWO_BOOKS, b -> b.opens(wrong, -1));
        }
        for (int wrong : new int[] {-1, 100001, Integer.MIN_VALUE, Integer.MAX_VALUE}) {
            checks.refuses("opens within " + wrong, Checks.ARGUMENT, TWO_BOOKS, b -> b.opens(0, wrong));
        }
    }
}
