/** The edges of the promises 9 and 10, and of what the Terms tell of sheets. */
final class SheetEdges {
    private static final Class<?> ARGUMENT = Checks.ARGUMENT;
    private static final int[] LAST_COLUMN = {0, 1, 1, 3, 3};
    private static final int[] LAST_ROW = {0, 0, 1, 1, 3};

    private SheetEdges() {
    }

    static void run(Edges edges) {
        sheets(edges);
        pageAt(edges);
        placeOf(edges);
    }

    private static void page(Checks checks, int due, int folds, boolean isBack, int column, int row) {
        String what = folds + " folds, " + (isBack ? "back" : "front") + ", column " + column + ", row " + row;
        checks.answers(what, due, Benches.EMPTY, b -> b.pageAt(folds, isBack, column, row));
        int place = (isBack ? 100 : 0) + 10 * row + column;
        checks.answers("page " + due + ", " + what, place, Benches.EMPTY, b -> b.placeOf(folds, due));
    }

    // ---- Terms

    private static void sheets(Edges edges) {
        edges.section("Terms");
        edges.test("with columns from the left and rows from above, each from 0", checks -> {
            page(checks, 3, 1, false, 0, 0);
            page(checks, 2, 1, false, 1, 0);
            page(checks, 7, 2, false, 0, 0);
            page(checks, 2, 2, false, 0, 1);
        });
        edges.test("It is folded 1 to 4 times", SheetEdges::folded);
        edges.test("So one that is folded once has 2 columns and 1 row", checks -> {
            for (int times = 1; times <= 4; times++) {
                int folds = times;
                int column = LAST_COLUMN[folds];
                int row = LAST_ROW[folds];
                long page = new MarbleBench().pageAt(folds, false, column, row);
                checks.answers("the last place", 10 * row + column, Benches.EMPTY, b -> b.placeOf(folds, (int) page));
                Edges.always(checks, "a column more", ARGUMENT, b -> b.pageAt(folds, false, column + 1, row));
                Edges.always(checks, "a row more", ARGUMENT, b -> b.pageAt(folds, false, column, row + 1));
            }
        });
        edges.test("the upper side of the uppermost layer is 1, its lower side 2", checks -> {
            page(checks, 1, 1, true, 1, 0);
            page(checks, 2, 1, false, 1, 0);
            page(checks, 1, 2, true, 0, 1);
            page(checks, 2, 2, false, 0, 1);
            page(checks, 1, 3, true, 1, 0);
            page(checks, 2, 3, false, 1, 0);
            page(checks, 1, 4, true, 0, 1);
            page(checks, 2, 4, false, 0, 1);
        });
    }

    /** All fronts as they were found by folding paper; the two pages of one leaf are 1 and 2, 3 and 4, and so on. */
    private static void folded(Checks checks) {
        int[][][] fronts = {
            {{3, 2}},
            {{7, 6}, {2, 3}},
            {{15, 2, 3, 14}, {10, 7, 6, 11}},
            {{31, 18, 19, 30}, {2, 15, 14, 3}, {7, 10, 11, 6}, {26, 23, 22, 27}},
        };
        for (int folds = 1; folds <= 4; folds++) {
            for (int row = 0; row <= LAST_ROW[folds]; row++) {
                for (int column = 0; column <= LAST_COLUMN[folds]; column++) {
                    int front = fronts[folds - 1][row][column];
                    page(checks, front, folds, false, column, row);
                    page(checks, front % 2 == 0 ? front - 1 : front + 1, folds, true, column, row);
                }
            }
        }
    }

    // ---- Promises

    private static void pageAt(Edges edges) {
        edges.section("Promise 9");
        edges.test("Returns which page is at a place of a sheet that is to be folded.", checks -> {
            checks.answers("an empty bench", 14, Benches.EMPTY, b -> b.pageAt(3, false, 3, 0));
            checks.answers("a full bench", 14, Benches.FULL, b -> b.pageAt(3, false, 3, 0));
        });
        edges.test("- `folds`: 1 to 4", checks -> {
            checks.answers("1", 3, Benches.EMPTY, b -> b.pageAt(1, false, 0, 0));
            checks.answers("4", 31, Benches.EMPTY, b -> b.pageAt(4, false, 0, 0));
            Edges.outside(checks, ARGUMENT, 1, 4, (b, v) -> b.pageAt(v, false, 0, 0));
            Edges.outside(checks, ARGUMENT, 1, 4, (b, v) -> b.pageAt(v, true, 0, 0));
        });
        edges.test("- `isBack`: whether on the back, seen through the sheet", checks -> {
            checks.answers("front of the last place", 27, Benches.EMPTY, b -> b.pageAt(4, false, 3, 3));
            checks.answers("its back", 28, Benches.EMPTY, b -> b.pageAt(4, true, 3, 3));
            checks.answers("front of the first place", 31, Benches.EMPTY, b -> b.pageAt(4, false, 0, 0));
            checks.answers("its back", 32, Benches.EMPTY, b -> b.pageAt(4, true, 0, 0));
        });
        edges.test("- `column`: 0 to the last one", checks -> {
            int[] first = {0, 4, 8, 16, 32};
            int[] last = {0, 1, 5, 13, 29};
            for (int times = 1; times <= 4; times++) {
                int folds = times;
                int column = LAST_COLUMN[folds];
                checks.answers("0, " + folds + " folds", first[folds], Benches.EMPTY,
                        b -> b.pageAt(folds, true, 0, 0));
                checks.answers("the last one, " + folds + " folds", last[folds], Benches.EMPTY,
                        b -> b.pageAt(folds, true, column, 0));
                Edges.outside(checks, ARGUMENT, 0, column, (b, v) -> b.pageAt(folds, true, v, 0));
            }
        });
        edges.test("- `row`: 0 to the last one", checks -> {
            int[] first = {0, 3, 7, 15, 31};
            int[] last = {0, 3, 2, 10, 26};
            for (int times = 1; times <= 4; times++) {
                int folds = times;
                int row = LAST_ROW[folds];
                checks.answers("0, " + folds + " folds", first[folds], Benches.EMPTY,
                        b -> b.pageAt(folds, false, 0, 0));
                checks.answers("the last one, " + folds + " folds", last[folds], Benches.EMPTY,
                        b -> b.pageAt(folds, false, 0, row));
                Edges.outside(checks, ARGUMENT, 0, row, (b, v) -> b.pageAt(folds, false, 0, v));
            }
        });
        edges.test("Returns the page, from 1.", checks -> {
            int[] column = {0, 1, 0, 1, 0};
            int[] row = {0, 0, 1, 0, 1};
            for (int times = 1; times <= 4; times++) {
                int folds = times;
                checks.answers("the first page", 1, Benches.EMPTY,
                        b -> b.pageAt(folds, true, column[folds], row[folds]));
                checks.answers("the last page", 2 << folds, Benches.EMPTY, b -> b.pageAt(folds, true, 0, 0));
            }
        });
        edges.test("Throws `IllegalArgumentException`", checks -> {
            Edges.always(checks, "all", ARGUMENT, b -> b.pageAt(0, true, -1, -1));
            Edges.always(checks, "all at the other end", ARGUMENT, b -> b.pageAt(5, false, 4, 4));
            Edges.always(checks, "column and row", ARGUMENT, b -> b.pageAt(4, false, 4, 4));
            Edges.always(checks, "a place of more folds", ARGUMENT, b -> b.pageAt(2, false, 3, 1));
        });
    }

    private static void placeOf(Edges edges) {
        edges.section("Promise 10");
        edges.test("Returns the place of a page.", checks -> {
            checks.answers("an empty bench", 3, Benches.EMPTY, b -> b.placeOf(3, 14));
            checks.answers("a full bench", 3, Benches.FULL, b -> b.placeOf(3, 14));
        });
        edges.test("- `folds`: 1 to 4", checks -> {
            checks.answers("1", 101, Benches.EMPTY, b -> b.placeOf(1, 1));
            checks.answers("4", 110, Benches.EMPTY, b -> b.placeOf(4, 1));
            Edges.outside(checks, ARGUMENT, 1, 4, (b, v) -> b.placeOf(v, 1));
        });
        edges.test("- `page`: 1 to twice as many as there are places", checks -> {
            int[] first = {0, 101, 110, 101, 110};
            for (int times = 1; times <= 4; times++) {
                int folds = times;
                int last = 2 << folds;
                checks.answers("1, " + folds + " folds", first[folds], Benches.EMPTY, b -> b.placeOf(folds, 1));
                checks.answers(last + ", " + folds + " folds", 100, Benches.EMPTY, b -> b.placeOf(folds, last));
                Edges.outside(checks, ARGUMENT, 1, last, (b, v) -> b.placeOf(folds, v));
            }
        });
        edges.test("Returns 100 if it is on the back, and 10 times the row, and the column, together.", checks -> {
            checks.answers("front, row 0, column 0", 0, Benches.EMPTY, b -> b.placeOf(4, 31));
            checks.answers("back, row 0, column 0", 100, Benches.EMPTY, b -> b.placeOf(4, 32));
            checks.answers("front, row 0, column 3", 3, Benches.EMPTY, b -> b.placeOf(4, 30));
            checks.answers("front, row 3, column 0", 30, Benches.EMPTY, b -> b.placeOf(4, 26));
            checks.answers("front, row 3, column 3", 33, Benches.EMPTY, b -> b.placeOf(4, 27));
            checks.answers("back, row 3, column 3", 133, Benches.EMPTY, b -> b.placeOf(4, 28));
        });
        edges.test("Throws `IllegalArgumentException`", checks -> {
            Edges.always(checks, "both", ARGUMENT, b -> b.placeOf(0, 0));
            Edges.always(checks, "both at the other end", ARGUMENT, b -> b.placeOf(5, 33));
            Edges.always(checks, "a page of more folds", ARGUMENT, b -> b.placeOf(3, 17));
        });
    }
}
