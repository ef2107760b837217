/** Promises 26 and 27: repairs. */
final class RepairTest {
    private static final int[] WRONG_BOOKS = {-1, 2, 4, Integer.MIN_VALUE, Integer.MAX_VALUE};

    /** The first book is old, the second one is not. */
    private static final Checks.Setup TWO_BOOKS = bench -> {
        bench.book(1, 2, 3, 1, true);
        bench.book(1, 2, 3, 1, false);
        bench.repair(0, 1);
        bench.repair(1, 2);
        bench.repair(1, 4);
    };
    private static final Checks.Setup ALL_REPAIRS = bench -> {
        bench.book(1, 2, 3, 1, true);
        bench.book(1, 2, 3, 1, false);
        for (int i = 0; i < 20; i++) {
            bench.repair(0, i % 3);
            bench.repair(1, i % 5);
        }
    };

    private RepairTest() {
    }

    static void run(Checks checks) {
        repaired(checks);
        repairRefused(checks);
        undone(checks);
        undoRefused(checks);
    }

    private static void repaired(Checks checks) {
        MarbleBench bench = new MarbleBench();
        bench.book(1, 2, 3, 1, true);
        bench.book(1, 2, 3, 1, false);
        for (int stuff = 0; stuff <= 2; stuff++) {
            checks.due("repair of an old book", stuff + 1, bench.repair(0, stuff));
        }
        for (int stuff = 0; stuff <= 4; stuff++) {
            checks.due("repair of another book", stuff + 1, bench.repair(1, stuff));
        }
        for (int many = 4; many <= 20; many++) {
            checks.due("repair", many, bench.repair(0, 2));
        }
    }

    private static void repairRefused(Checks checks) {
        for (int wrong : WRONG_BOOKS) {
            checks.refuses("repair of book " + wrong, Checks.PLACE, TWO_BOOKS, b -> b.repair(wrong, 0));
            checks.refuses("repair of book before stuff", Checks.PLACE, TWO_BOOKS, b -> b.repair(wrong, 5));
        }
        for (int wrong : new int[] {-1, 5, Integer.MIN_VALUE, Integer.MAX_VALUE}) {
            checks.refuses("repair by " + wrong, Checks.ARGUMENT, TWO_BOOKS, b -> b.repair(0, wrong));
            checks.refuses("stuff before 20 repairs", Checks.ARGUMENT, ALL_REPAIRS, b -> b.repair(1, wrong));
        }
        checks.refuses("repair of an old book by 3", Checks.STATE, TWO_BOOKS, b -> b.repair(0, 3));
        checks.refuses("repair of an old book by 4", Checks.STATE, TWO_BOOKS, b -> b.repair(0, 4));
        for (int stuff = 0; stuff <= 4; stuff++) {
            int tried = stuff;
            checks.refuses("repair 21 of an old book", Checks.STATE, ALL_REPAIRS, b -> b.repair(0, tried));
            checks.refuses("repair 21 of another book", Checks.STATE, ALL_REPAIRS, b -> b.repair(1, tried));
        }
    }

    private static void undone(Checks checks) {
        MarbleBench bench = Checks.made(ALL_REPAIRS);
        for (int i = 19; i >= 10; i--) {
            checks.due("undo of repair " + i, i % 3, bench.undo(0));
        }
        checks.due("a repair in between", 11, bench.repair(0, 1));
        checks.due("its undo", 1, bench.undo(0));
        for (int i = 9; i >= 0; i--) {
            checks.due("undo of repair " + i, i % 3, bench.undo(0));
        }
        checks.due("the first repair again", 1, bench.repair(0, 2));
        MarbleBench other = Checks.made(TWO_BOOKS);
        other.repair(1, 0);
        checks.due("undo on top of what cannot be undone", 0, other.undo(1));
        checks.due("the old book's undo", 1, other.undo(0));
    }

    private static void undoRefused(Checks checks) {
        for (int wrong : WRONG_BOOKS) {
            checks.refuses("undo of book " + wrong, Checks.PLACE, TWO_BOOKS, b -> b.undo(wrong));
        }
        for (int stuff = 3; stuff <= 4; stuff++) {
            int used = stuff;
            Checks.Setup stuck = b -> {
                b.book(1, 2, 3, 1, false);
                b.repair(0, 0);
                b.repair(0, used);
            };
            checks.refuses("undo of stuff " + stuff, Checks.STATE, stuck, b -> b.undo(0));
        }
        Checks.Setup none = b -> {
            b.book(1, 2, 3, 1, false);
            b.repair(0, 0);
            b.undo(0);
        };
        checks.refuses("undo without a repair", Checks.STATE, none, b -> b.undo(0));
    }
}
