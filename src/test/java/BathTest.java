/** Promises 2 to 8: the bath and its prints. */
final class BathTest {
    private static final int NONE = MarbleBench.NONE;
    private static final Checks.Setup COLOURED = bench -> {
        bench.drop(3, 3, 2, 20);
        bench.drop(5, 5, 4, 9);
        bench.lift();
        bench.drop(0, 7, 1, 7);
    };
    private static final Checks.Setup ALL_PRINTS = bench -> {
        bench.drop(3, 3, 2, 20);
        for (int i = 0; i < 10; i++) {
            bench.lift();
        }
        bench.drop(2, 2, 5, 3);
    };

    private BathTest() {
    }

    static void run(Checks checks) {
        dropOrder(checks);
        dropRanks(checks);
        dropStrength(checks);
        dropRefused(checks);
        combRow(checks);
        combColumn(checks);
        combAllNumbers(checks);
        combRefused(checks);
        liftAndGhost(checks);
        liftOfAllCells(checks);
        liftRefused(checks);
        cleanBath(checks);
        cellRefused(checks);
        printsStay(checks);
        printRefused(checks);
        countPrints(checks);
        countRefused(checks);
    }

    private static int[] coloursOfRow(MarbleBench bench, int y) {
        int[] colours = new int[8];
        for (int x = 0; x < 8; x++) {
            colours[x] = bench.cellAt(x, y, 0);
        }
        return colours;
    }

    private static void row(Checks checks, String what, MarbleBench bench, int y, int... due) {
        int[] got = coloursOfRow(bench, y);
        for (int x = 0; x < 8; x++) {
            checks.due(what + ", row " + y + ", x " + x, due[x], got[x]);
        }
    }

    /** The 13 cells nearest to (3, 3) by distance, then y, then x. */
    private static void dropOrder(Checks checks) {
        int[][] order = {{3, 3}, {3, 2}, {2, 3}, {4, 3}, {3, 4}, {2, 2}, {4, 2}, {2, 4}, {4, 4},
                {3, 1}, {1, 3}, {5, 3}, {3, 5}};
        for (int many = 1; many <= order.length; many++) {
            MarbleBench bench = new MarbleBench();
            checks.due("drop on " + many, many, bench.drop(3, 3, 0, many));
            for (int i = 0; i < order.length; i++) {
                int got = bench.cellAt(order[i][0], order[i][1], 0);
                checks.due("cell " + i + " of a drop on " + many, i < many ? 0 : NONE, got);
            }
        }
        MarbleBench corner = new MarbleBench();
        checks.due("drop in a corner", 5, corner.drop(7, 7, 3, 5));
        row(checks, "corner", corner, 7, NONE, NONE, NONE, NONE, NONE, NONE, 3, 3);
        row(checks, "corner", corner, 6, NONE, NONE, NONE, NONE, NONE, NONE, 3, 3);
        row(checks, "corner", corner, 5, NONE, NONE, NONE, NONE, NONE, NONE, NONE, 3);
        MarbleBench full = new MarbleBench();
        checks.due("drop on all but one", 63, full.drop(0, 0, 5, 63));
        checks.due("the farthest cell", NONE, full.cellAt(7, 7, 0));
        checks.due("drop on all", 64, full.drop(0, 0, 5, 64));
        checks.due("the farthest cell then", 5, full.cellAt(7, 7, 0));
    }

    private static void dropRanks(Checks checks) {
        MarbleBench bench = new MarbleBench();
        bench.drop(0, 0, 3, 1);
        checks.due("a lower colour leaves a higher one", 2, bench.drop(0, 0, 2, 3));
        row(checks, "ranks", bench, 0, 3, 2, NONE, NONE, NONE, NONE, NONE, NONE);
        checks.due("an alike colour counts", 3, bench.drop(0, 0, 3, 3));
        row(checks, "ranks", bench, 0, 3, 3, NONE, NONE, NONE, NONE, NONE, NONE);
        checks.due("the same one again counts", 3, bench.drop(0, 0, 3, 3));
        checks.due("the lowest colour", 0, bench.drop(0, 0, 0, 3));
        checks.due("the highest colour", 3, bench.drop(0, 0, 5, 3));
        checks.due("colour 0 where there is none", 1, bench.drop(7, 7, 0, 1));
        checks.due("colour 0 there", 0, bench.cellAt(7, 7, 0));
    }

    private static void dropStrength(Checks checks) {
        MarbleBench bench = new MarbleBench();
        bench.drop(4, 4, 2, 2);
        checks.due("strength of a drop", 2, bench.cellAt(4, 4, 1));
        checks.due("strength beside it", 0, bench.cellAt(0, 0, 1));
        bench.lift();
        checks.due("strength after a print", 1, bench.cellAt(4, 4, 1));
        bench.drop(4, 4, 1, 2);
        checks.due("a cell that keeps its colour keeps its strength", 1, bench.cellAt(4, 4, 1));
        bench.drop(4, 4, 2, 1);
        checks.due("the same colour is strong again", 2, bench.cellAt(4, 4, 1));
        checks.due("the next cell is not", 1, bench.cellAt(4, 3, 1));
    }

    private static void dropRefused(Checks checks) {
        for (int wrong : new int[] {-1, 8, Integer.MIN_VALUE, Integer.MAX_VALUE}) {
            checks.refuses("drop x " + wrong, Checks.PLACE, COLOURED, b -> b.drop(wrong, 0, 0, 1));
            checks.refuses("drop y " + wrong, Checks.PLACE, COLOURED, b -> b.drop(0, wrong, 0, 1));
        }
        for (int wrong : new int[] {-1, 6, Integer.MIN_VALUE, Integer.MAX_VALUE}) {
            checks.refuses("drop colour " + wrong, Checks.ARGUMENT, COLOURED, b -> b.drop(0, 0, wrong, 1));
        }
        for (int wrong : new int[] {0, -1, 65, Integer.MIN_VALUE, Integer.MAX_VALUE}) {
            checks.refuses("drop many " + wrong, Checks.ARGUMENT, COLOURED, b -> b.drop(0, 0, 0, wrong));
        }
        checks.refuses("drop x before colour", Checks.PLACE, COLOURED, b -> b.drop(8, 0, 6, 0));
        checks.refuses("drop y before many", Checks.PLACE, COLOURED, b -> b.drop(0, -1, 0, 65));
    }

    private static void combRow(Checks checks) {
        MarbleBench bench = new MarbleBench();
        bench.drop(6, 2, 4, 1);
        bench.lift();
        bench.drop(0, 2, 1, 1);
        checks.due("comb of a row", 2, bench.comb(true, 2, 3));
        row(checks, "row by 3", bench, 2, NONE, 4, NONE, 1, NONE, NONE, NONE, NONE);
        checks.due("strength goes along", 1, bench.cellAt(1, 2, 1));
        checks.due("strength goes along", 2, bench.cellAt(3, 2, 1));
        checks.due("no strength where it was", 0, bench.cellAt(6, 2, 1));
        checks.due("comb by 0", 2, bench.comb(true, 2, 0));
        row(checks, "row by 0", bench, 2, NONE, 4, NONE, 1, NONE, NONE, NONE, NONE);
        checks.due("comb by -7", 2, bench.comb(true, 2, -7));
        row(checks, "row by -7", bench, 2, NONE, NONE, 4, NONE, 1, NONE, NONE, NONE);
        checks.due("comb of an empty row", 0, bench.comb(true, 3, 7));
        row(checks, "the next row", bench, 3, NONE, NONE, NONE, NONE, NONE, NONE, NONE, NONE);
    }

    private static void combColumn(Checks checks) {
        MarbleBench bench = new MarbleBench();
        bench.drop(5, 0, 3, 1);
        bench.drop(4, 0, 2, 1);
        checks.due("comb of a column", 1, bench.comb(false, 5, -2));
        checks.due("up beyond the end", 3, bench.cellAt(5, 6, 0));
        checks.due("and its strength", 2, bench.cellAt(5, 6, 1));
        checks.due("where it was", NONE, bench.cellAt(5, 0, 0));
        checks.due("the column beside it", 2, bench.cellAt(4, 0, 0));
        checks.due("comb of a column by 7", 1, bench.comb(false, 5, 7));
        checks.due("down beyond the end", 3, bench.cellAt(5, 5, 0));
    }

    private static void combAllNumbers(Checks checks) {
        for (int by = -7; by <= 7; by++) {
            MarbleBench bench = new MarbleBench();
            for (int line = 0; line < 8; line++) {
                bench.drop(line, line, 5, 1);
                checks.due("comb by " + by, 1, bench.comb(line % 2 == 0, line, by));
                int there = (line + by + 8) % 8;
                int got = line % 2 == 0 ? bench.cellAt(there, line, 0) : bench.cellAt(line, there, 0);
                checks.due("combed by " + by + " from " + line, 5, got);
                bench.clean();
            }
        }
    }

    private static void combRefused(Checks checks) {
        for (boolean isRow : new boolean[] {true, false}) {
            for (int wrong : new int[] {-1, 8, Integer.MIN_VALUE, Integer.MAX_VALUE}) {
                checks.refuses("comb line " + wrong, Checks.PLACE, COLOURED, b -> b.comb(isRow, wrong, 1));
                checks.refuses("comb line before by", Checks.PLACE, COLOURED, b -> b.comb(isRow, wrong, 8));
            }
            for (int wrong : new int[] {-8, 8, Integer.MIN_VALUE, Integer.MAX_VALUE}) {
                checks.refuses("comb by " + wrong, Checks.ARGUMENT, COLOURED, b -> b.comb(isRow, 3, wrong));
            }
        }
    }

    private static void liftAndGhost(Checks checks) {
        MarbleBench bench = new MarbleBench();
        bench.drop(3, 3, 4, 1);
        checks.due("first print", 0, bench.lift());
        checks.due("colour after it", 4, bench.cellAt(3, 3, 0));
        checks.due("strength after it", 1, bench.cellAt(3, 3, 1));
        bench.drop(0, 0, 1, 1);
        checks.due("second print", 1, bench.lift());
        checks.due("the colour has gone", NONE, bench.cellAt(3, 3, 0));
        checks.due("and its strength", 0, bench.cellAt(3, 3, 1));
        checks.due("the later one is there", 1, bench.cellAt(0, 0, 0));
        checks.due("third print", 2, bench.lift());
        checks.due("an empty cell has no strength", 0, bench.cellAt(3, 3, 1));
        checks.due("on the first print", 4, bench.printAt(0, 3, 3));
        checks.due("on its ghost", 4, bench.printAt(1, 3, 3));
        checks.due("not on the third", NONE, bench.printAt(2, 3, 3));
        checks.due("the later drop on the third", 1, bench.printAt(2, 0, 0));
        checks.due("not on the first", NONE, bench.printAt(0, 0, 0));
    }

    private static void liftOfAllCells(Checks checks) {
        for (int lifted = 1; lifted <= 2; lifted++) {
            MarbleBench bench = new MarbleBench();
            bench.drop(4, 4, 3, 64);
            for (int i = 0; i < lifted; i++) {
                bench.lift();
            }
            for (int cell = 0; cell < 64; cell++) {
                String what = "cell " + cell + " after " + lifted + " prints";
                checks.due("strength of " + what, 2 - lifted, bench.cellAt(cell % 8, cell / 8, 1));
                checks.due("colour of " + what, lifted == 1 ? 3 : NONE, bench.cellAt(cell % 8, cell / 8, 0));
                checks.due("print of " + what, 3, bench.printAt(lifted - 1, cell % 8, cell / 8));
            }
        }
    }

    private static void liftRefused(Checks checks) {
        MarbleBench bench = new MarbleBench();
        for (int i = 0; i < 10; i++) {
            checks.due("print", i, bench.lift());
        }
        checks.refuses("an eleventh print", Checks.STATE, ALL_PRINTS, b -> b.lift());
    }

    private static void cleanBath(Checks checks) {
        MarbleBench bench = Checks.made(COLOURED);
        int coloured = 0;
        for (int cell = 0; cell < 64; cell++) {
            coloured += bench.cellAt(cell % 8, cell / 8, 0) == NONE ? 0 : 1;
        }
        checks.due("clean", coloured, bench.clean());
        for (int cell = 0; cell < 64; cell++) {
            checks.due("colour after clean", NONE, bench.cellAt(cell % 8, cell / 8, 0));
            checks.due("strength after clean", 0, bench.cellAt(cell % 8, cell / 8, 1));
        }
        checks.due("clean again", 0, bench.clean());
        checks.due("the print stays", 2, bench.printAt(0, 3, 3));
        bench.drop(0, 0, 0, 64);
        checks.due("clean of a full bath", 64, bench.clean());
    }

    private static void cellRefused(Checks checks) {
        for (int wrong : new int[] {-1, 8, Integer.MIN_VALUE, Integer.MAX_VALUE}) {
            checks.refuses("cellAt x " + wrong, Checks.PLACE, COLOURED, b -> b.cellAt(wrong, 0, 0));
            checks.refuses("cellAt y " + wrong, Checks.PLACE, COLOURED, b -> b.cellAt(0, wrong, 1));
            checks.refuses("cellAt x before what", Checks.PLACE, COLOURED, b -> b.cellAt(wrong, 0, 2));
        }
        for (int wrong : new int[] {-1, 2, Integer.MIN_VALUE, Integer.MAX_VALUE}) {
            checks.refuses("cellAt what " + wrong, Checks.ARGUMENT, COLOURED, b -> b.cellAt(7, 7, wrong));
        }
    }

    private static void printsStay(Checks checks) {
        MarbleBench bench = new MarbleBench();
        bench.drop(7, 0, 5, 1);
        bench.drop(0, 7, 3, 1);
        bench.lift();
        bench.comb(true, 0, 1);
        bench.drop(0, 7, 4, 1);
        bench.clean();
        checks.due("a print after comb", 5, bench.printAt(0, 7, 0));
        checks.due("a print after drop", 3, bench.printAt(0, 0, 7));
        checks.due("a cell without colour", NONE, bench.printAt(0, 0, 0));
    }

    private static void printRefused(Checks checks) {
        for (int wrong : new int[] {-1, 1, 9, 10, Integer.MIN_VALUE, Integer.MAX_VALUE}) {
            checks.refuses("printAt print " + wrong, Checks.PLACE, COLOURED, b -> b.printAt(wrong, 0, 0));
        }
        for (int wrong : new int[] {-1, 8, Integer.MIN_VALUE, Integer.MAX_VALUE}) {
            checks.refuses("printAt x " + wrong, Checks.PLACE, COLOURED, b -> b.printAt(0, wrong, 0));
            checks.refuses("printAt y " + wrong, Checks.PLACE, COLOURED, b -> b.printAt(0, 0, wrong));
        }
        checks.due("the tenth print", 2, Checks.made(ALL_PRINTS).printAt(0, 3, 3));
        checks.refuses("printAt beyond all prints", Checks.PLACE, ALL_PRINTS, b -> b.printAt(10, 0, 0));
    }

    private static void countPrints(Checks checks) {
        MarbleBench bench = new MarbleBench();
        bench.drop(2, 2, 0, 12);
        bench.drop(2, 2, 5, 4);
        bench.lift();
        checks.due("count of colour 0", 8, bench.count(0, 0));
        checks.due("count of colour 5", 4, bench.count(0, 5));
        checks.due("count of colour 3", 0, bench.count(0, 3));
        checks.due("count of none", 52, bench.count(0, NONE));
        checks.due("count on the tenth print", 64, Checks.made(ALL_PRINTS).count(9, NONE));
        checks.due("count on the second print", 20, Checks.made(ALL_PRINTS).count(1, 2));
    }

    private static void countRefused(Checks checks) {
        for (int wrong : new int[] {-1, 1, 10, Integer.MIN_VALUE, Integer.MAX_VALUE}) {
            checks.refuses("count print " + wrong, Checks.PLACE, COLOURED, b -> b.count(wrong, 0));
            checks.refuses("count print before colour", Checks.PLACE, COLOURED, b -> b.count(wrong, 6));
        }
        for (int wrong : new int[] {-2, 6, Integer.MIN_VALUE, Integer.MAX_VALUE}) {
            checks.refuses("count colour " + wrong, Checks.ARGUMENT, COLOURED, b -> b.count(0, wrong));
        }
    }
}
