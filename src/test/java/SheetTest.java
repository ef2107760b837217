/** Promises 9 and 10: which page is where on a sheet. */
final class SheetTest {
    private static final Checks.Setup NOTHING = bench -> { };

    /** The pages on the fronts of a sheet, found by folding paper; the back's page is the other one of its leaf. */
    private static final int[][][] FRONTS = {
        {{3, 2}},
        {{7, 6}, {2, 3}},
        {{15, 2, 3, 14}, {10, 7, 6, 11}},
        {{31, 18, 19, 30}, {2, 15, 14, 3}, {7, 10, 11, 6}, {26, 23, 22, 27}},
    };

    private SheetTest() {
    }

    static void run(Checks checks) {
        for (int folds = 1; folds <= 4; folds++) {
            pages(checks, folds);
            refused(checks, folds);
        }
        wrongFolds(checks);
    }

    private static void pages(Checks checks, int folds) {
        MarbleBench bench = new MarbleBench();
        int[][] fronts = FRONTS[folds - 1];
        for (int row = 0; row < fronts.length; row++) {
            for (int column = 0; column < fronts[row].length; column++) {
                int front = fronts[row][column];
                int back = front % 2 == 0 ? front - 1 : front + 1;
                String where = folds + " folds, column " + column + ", row " + row;
                checks.due("front, " + where, front, bench.pageAt(folds, false, column, row));
                checks.due("back, " + where, back, bench.pageAt(folds, true, column, row));
                checks.due("place of front, " + where, 10 * row + column, bench.placeOf(folds, front));
                checks.due("place of back, " + where, 100 + 10 * row + column, bench.placeOf(folds, back));
            }
        }
    }

    private static void refused(Checks checks, int folds) {
        int rows = FRONTS[folds - 1].length;
        int columns = FRONTS[folds - 1][0].length;
        for (int wrong : new int[] {-1, columns, Integer.MIN_VALUE, Integer.MAX_VALUE}) {
            checks.refuses("pageAt column " + wrong, Checks.ARGUMENT, NOTHING, b -> b.pageAt(folds, true, wrong, 0));
        }
        for (int wrong : new int[] {-1, rows, Integer.MIN_VALUE, Integer.MAX_VALUE}) {
            checks.refuses("pageAt row " + wrong, Checks.ARGUMENT, NOTHING, b -> b.pageAt(folds, false, 0, wrong));
        }
        for (int wrong : new int[] {0, -1, 2 * rows * columns + 1, Integer.MIN_VALUE, Integer.MAX_VALUE}) {
            checks.refuses("placeOf page " + wrong, Checks.ARGUMENT, NOTHING, b -> b.placeOf(folds, wrong));
        }
    }

    private static void wrongFolds(Checks checks) {
        for (int wrong : new int[] {0, -1, 5, 32, Integer.MIN_VALUE, Integer.MAX_VALUE}) {
            checks.refuses("pageAt folds " + wrong, Checks.ARGUMENT, NOTHING, b -> b.pageAt(wrong, false, 0, 0));
            checks.refuses("placeOf folds " + wrong, Checks.ARGUMENT, NOTHING, b -> b.placeOf(wrong, 1));
        }
    }
}
