/** The edges of the promises 26 to 30, and of what the Terms tell of repairs and years. */
final class YearEdges {
    private static final int NONE = MarbleBench.NONE;
    private static final int FIRST = 1400, LAST = 2000;
    private static final Class<?> PLACE = Checks.PLACE, ARGUMENT = Checks.ARGUMENT, STATE = Checks.STATE;

    private YearEdges() {
    }

    static void run(Edges edges) {
        repairs(edges);
        years(edges);
        repair(edges);
        undo(edges);
        speak(edges);
        year(edges);
        yearAnew(edges);
    }

    // ---- benches and what is seen of them

    private static Checks.Setup repaired(boolean isOld, int... stuffs) {
        return bench -> {
            bench.book(1, 2, 3, 1, isOld);
            for (int stuff : stuffs) {
                bench.repair(0, stuff);
            }
        };
    }

    private static int[] many(int stuff, int many) {
        int[] stuffs = new int[many];
        java.util.Arrays.fill(stuffs, stuff);
        return stuffs;
    }

    /** A book of which so much speaks, by rows of from, to and weight. */
    private static Checks.Setup spoken(int[]... rows) {
        return bench -> {
            bench.book(1, 2, 3, 1, true);
            for (int[] row : rows) {
                bench.speak(0, row[0], row[1], row[2]);
            }
        };
    }

    private static int[] row(int from, int to, int weight) {
        return new int[] {from, to, weight};
    }

    private static int[][] rows(int many, int from, int to, int weight) {
        int[][] rows = new int[many][];
        java.util.Arrays.fill(rows, row(from, to, weight));
        return rows;
    }

    private static void years(Checks checks, String what, int first, int last, int[]... rows) {
        years(checks, what, first, last, spoken(rows));
    }

    private static void years(Checks checks, String what, int first, int last, Checks.Setup setup) {
        checks.answers("first year, " + what, first, setup, b -> b.year(0, false));
        checks.answers("last year, " + what, last, setup, b -> b.year(0, true));
        checks.answers("first year anew, " + what, first, setup, b -> b.yearAnew(0, false));
        checks.answers("last year anew, " + what, last, setup, b -> b.yearAnew(0, true));
    }

    // ---- Terms

    private static void repairs(Edges edges) {
        edges.section("Terms");
        edges.test("A repair of a book is by a stuff, 0 to 4: 0 to 2 can be undone, 3 and 4 cannot.", checks -> {
            for (int each = 0; each <= 4; each++) {
                int stuff = each;
                checks.answers("repair by " + stuff, 1, repaired(false), b -> b.repair(0, stuff));
                if (stuff <= 2) {
                    checks.answers("undo of " + stuff, stuff, repaired(false, stuff), b -> b.undo(0));
                } else {
                    checks.refuses("undo of " + stuff, STATE, repaired(false, stuff), b -> b.undo(0));
                }
            }
        });
        edges.test("An old book is repaired by 0 to 2 alone.", checks -> {
            for (int each = 0; each <= 4; each++) {
                int stuff = each;
                if (stuff <= 2) {
                    checks.answers("repair by " + stuff, 1, repaired(true), b -> b.repair(0, stuff));
                } else {
                    checks.refuses("repair by " + stuff, STATE, repaired(true), b -> b.repair(0, stuff));
                }
            }
        });
        edges.test("Repairs are undone one by one, the latest first.", checks -> {
            MarbleBench bench = Checks.made(repaired(false, 3, 1, 0, 2, 2, 0, 1));
            int[] due = {1, 0, 2, 2, 0, 1};
            for (int stuff : due) {
                checks.due("undo", stuff, bench.undo(0));
            }
            checks.due("two remain with one more", 2, bench.repair(0, 0));
        });
        edges.test("A book has at most 20 repairs that are not undone.", checks -> {
            for (boolean isOld : new boolean[] {true, false}) {
                checks.answers("the last one", 20, repaired(isOld, many(2, 19)), b -> b.repair(0, 2));
                checks.refuses("one more", STATE, repaired(isOld, many(2, 20)), b -> b.repair(0, 2));
                Checks.Setup oneLess = Benches.then(repaired(isOld, many(2, 20)), b -> b.undo(0));
                checks.answers("after one was undone", 20, oneLess, b -> b.repair(0, 0));
                Checks.Setup allAgain = Benches.then(oneLess, b -> b.repair(0, 0));
                checks.refuses("one more again", STATE, allAgain, b -> b.repair(0, 0));
            }
            checks.refuses("20 that cannot be undone", STATE, repaired(false, many(4, 20)), b -> b.repair(0, 4));
            checks.answers("another book", 3, Benches.then(Benches.USED, b -> {
                for (int i = 2; i < 20; i++) {
                    b.repair(0, 0);
                }
            }), b -> b.repair(1, 3));
        });
    }

    private static void years(Edges edges) {
        edges.section("Terms");
        edges.test("with a weight, 1 to 9; at most 20 for a book", checks -> {
            checks.answers("the last one", 20, spoken(rows(19, 1500, 1500, 9)), b -> b.speak(0, 1500, 1500, 9));
            checks.refuses("one more", STATE, spoken(rows(20, 1500, 1500, 9)), b -> b.speak(0, 1500, 1500, 9));
            Checks.Setup two = Benches.then(spoken(rows(20, 1500, 1500, 9)), b -> b.book(1, 2, 3, 1, true));
            checks.answers("another book", 1, two, b -> b.speak(1, 1500, 1500, 9));
        });
        edges.test("A year, 1400 to 2000, has the sum of the weights of all that speak for it.", checks -> {
            years(checks, "the first and the last year are of it", 1500, 1500, row(1500, 1600, 3), row(1400, 1500, 3));
            years(checks, "the year before is not", 1500, 1600, row(1500, 1600, 3), row(1400, 1499, 3),
                    row(1500, 1500, 1), row(1501, 1600, 1));
            years(checks, "2 and 2 are more than 3", 1610, 1620, row(1500, 1600, 3), row(1605, 1620, 2),
                    row(1610, 1640, 2));
            years(checks, "1 and 2 are as much as 3", 1500, 1600, row(1500, 1600, 3), row(1605, 1620, 2),
                    row(1610, 1640, 1));
            years(checks, "1 and 2 are as much as 3, earlier", 1410, 1420, row(1500, 1600, 3), row(1405, 1420, 2),
                    row(1410, 1440, 1));
            years(checks, "the greatest sum", LAST, LAST, spoken(joined(rows(19, FIRST, LAST, 9), row(LAST, LAST, 9))));
            years(checks, "the greatest sum at first", FIRST, FIRST,
                    spoken(joined(rows(19, FIRST, LAST, 9), row(FIRST, FIRST, 9))));
        });
        edges.test("from the first such year on, as long as the following years have it, too", checks -> {
            years(checks, "two runs alike", 1500, 1510, row(1700, 1710, 4), row(1500, 1510, 4));
            years(checks, "one year apart", 1500, 1510, row(1512, 1520, 4), row(1500, 1510, 4));
            years(checks, "side by side", 1500, 1520, row(1511, 1520, 4), row(1500, 1510, 4));
            years(checks, "side by side, of other weights", 1500, 1520, row(1511, 1520, 3), row(1500, 1510, 4),
                    row(1511, 1520, 1));
            years(checks, "side by side, 1 less", 1500, 1510, row(1511, 1520, 3), row(1500, 1510, 4));
            years(checks, "side by side, 1 more", 1511, 1520, row(1511, 1520, 5), row(1500, 1510, 4));
            years(checks, "each year by itself", 1990, LAST, spoken(yearByYear(1990)));
            years(checks, "20 that end on one another", 1400, 1419, spoken(twenty()));
        });
        edges.test("there are none without anything that speaks", checks -> {
            years(checks, "nothing", NONE, NONE);
            years(checks, "one book alone", NONE, NONE, Benches.then(spoken(), b -> {
                b.book(1, 2, 3, 1, true);
                b.speak(1, 1500, 1600, 9);
            }));
        });
    }

    private static int[][] joined(int[][] first, int[]... then) {
        int[][] all = java.util.Arrays.copyOf(first, first.length + then.length);
        System.arraycopy(then, 0, all, first.length, then.length);
        return all;
    }

    /** The last one first, so that the order of what speaks is not that of the years. */
    private static int[][] yearByYear(int from) {
        int[][] rows = new int[LAST - from + 1][];
        for (int i = 0; i < rows.length; i++) {
            rows[i] = row(LAST - i, LAST - i, 7);
        }
        return rows;
    }

    private static int[][] twenty() {
        int[][] rows = new int[20][];
        for (int i = 0; i < 20; i++) {
            rows[i] = row(FIRST + i * 7 % 20, FIRST + i * 7 % 20, 9);
        }
        return rows;
    }

    // ---- Promises

    private static void repair(Edges edges) {
        edges.section("Promise 26");
        edges.test("Repairs a book.", checks ->
                checks.answers("its latest stuff", 1, repaired(true, 0, 1), b -> b.undo(0)));
        edges.test("- `book`: its number", checks -> {
            checks.answers("the first one", 3, Benches.USED, b -> b.repair(0, 2));
            checks.answers("the last one", 1, Benches.FULL, b -> b.repair(3, 2));
            Edges.noBook(checks, (b, v) -> b.repair(v, 0));
        });
        edges.test("- `stuff`: 0 to 4", checks -> {
            checks.answers("0", 3, Benches.USED, b -> b.repair(1, 0));
            checks.answers("4", 3, Benches.USED, b -> b.repair(1, 4));
            Edges.outsideOfUsed(checks, ARGUMENT, 0, 4, (b, v) -> b.repair(0, v));
            Edges.outsideOfUsed(checks, ARGUMENT, 0, 4, (b, v) -> b.repair(1, v));
        });
        edges.test("Returns how many repairs it has that are not undone.", checks -> {
            checks.answers("the first one", 1, repaired(true), b -> b.repair(0, 0));
            Checks.Setup undone = Benches.then(repaired(true, 1), b -> b.undo(0));
            checks.answers("the first one again", 1, undone, b -> b.repair(0, 0));
            checks.answers("the last one", 20, repaired(false, many(3, 19)), b -> b.repair(0, 4));
        });
        edges.test("Throws `IndexOutOfBoundsException`", checks -> {
            Edges.always(checks, "book, stuff also out", PLACE, b -> b.repair(-1, -1));
            Edges.always(checks, "book, stuff also out", PLACE, b -> b.repair(4, 5));
            checks.refuses("the next book, stuff that cannot be undone", PLACE, Benches.USED, b -> b.repair(2, 3));
        });
        edges.test("Throws `IllegalArgumentException`", checks -> {
            checks.refuses("stuff out, 20 repairs", ARGUMENT, Benches.FULL, b -> b.repair(0, 5));
            checks.refuses("stuff out, an old book", ARGUMENT, repaired(true), b -> b.repair(0, 5));
            checks.refuses("stuff out, an old book with 20", ARGUMENT, Benches.FULL, b -> b.repair(1, -1));
        });
        edges.test("if the book is old, and the stuff cannot be undone, or it has 20", checks -> {
            for (int each = 0; each <= 4; each++) {
                int stuff = each;
                checks.refuses("repair 21 by " + stuff, STATE, Benches.FULL, b -> b.repair(0, stuff));
                checks.refuses("repair 21 of an old one by " + stuff, STATE, Benches.FULL, b -> b.repair(1, stuff));
            }
            for (int each = 3; each <= 4; each++) {
                int stuff = each;
                checks.refuses("an old one by " + stuff, STATE, Benches.USED, b -> b.repair(0, stuff));
                checks.refuses("repair 20 of an old one by " + stuff, STATE, repaired(true, many(1, 19)),
                        b -> b.repair(0, stuff));
                checks.answers("one that is not old", 20, repaired(false, many(1, 19)), b -> b.repair(0, stuff));
            }
        });
    }

    private static void undo(Edges edges) {
        edges.section("Promise 27");
        edges.test("Undoes the latest repair of a book.", checks -> {
            Checks.Setup undone = Benches.then(repaired(true, 1, 0, 2), b -> b.undo(0));
            checks.alike("as if it had not been", repaired(true, 1, 0), undone);
        });
        edges.test("- `book`: its number", checks -> {
            checks.answers("the first one", 0, Benches.USED, b -> b.undo(0));
            checks.answers("the last one", 2, Benches.then(Benches.FULL, b -> b.repair(3, 2)), b -> b.undo(3));
            Edges.noBook(checks, (b, v) -> b.undo(v));
        });
        edges.test("Returns its stuff.", checks -> {
            for (int each = 0; each <= 2; each++) {
                int stuff = each;
                checks.answers("the first one", stuff, repaired(true, stuff), b -> b.undo(0));
                checks.answers("on one that cannot be undone", stuff, repaired(false, 4, stuff), b -> b.undo(0));
                int[] twenty = many(1, 20);
                twenty[19] = stuff;
                checks.answers("the twentieth one", stuff, repaired(true, twenty), b -> b.undo(0));
            }
        });
        edges.test("Throws `IndexOutOfBoundsException`", checks ->
                checks.refuses("the next book", PLACE, Benches.USED, b -> b.undo(2)));
        edges.test("Throws `IllegalStateException` if it has none, or the latest one cannot be undone", checks -> {
            checks.refuses("none", STATE, repaired(true), b -> b.undo(0));
            checks.refuses("none, not old", STATE, repaired(false), b -> b.undo(0));
            checks.refuses("none any more", STATE, Benches.then(repaired(true, 1), b -> b.undo(0)), b -> b.undo(0));
            checks.refuses("none of the last book", STATE, Benches.FULL, b -> b.undo(3));
            for (int each = 3; each <= 4; each++) {
                int stuff = each;
                checks.refuses("the only one, " + stuff, STATE, repaired(false, stuff), b -> b.undo(0));
                checks.refuses("the latest one, " + stuff, STATE, repaired(false, 0, stuff), b -> b.undo(0));
                checks.refuses("below one that was undone, " + stuff, STATE,
                        Benches.then(repaired(false, stuff, 0), b -> b.undo(0)), b -> b.undo(0));
            }
        });
    }

    private static void speak(Edges edges) {
        edges.section("Promise 28");
        edges.test("Something speaks for years of a book.", checks ->
                years(checks, "one", 1500, 1600, row(1500, 1600, 1)));
        edges.test("- `book`: its number", checks -> {
            checks.answers("the first one", 3, Benches.USED, b -> b.speak(0, 1500, 1600, 1));
            checks.answers("the last one", 1, Benches.FULL, b -> b.speak(3, 1500, 1600, 1));
            Edges.noBook(checks, (b, v) -> b.speak(v, 1500, 1600, 1));
        });
        edges.test("- `from`: 1400 to 2000", checks -> {
            years(checks, "1400", FIRST, 1600, row(FIRST, 1600, 1));
            years(checks, "2000", LAST, LAST, row(LAST, LAST, 1));
            Edges.outsideOfUsed(checks, ARGUMENT, FIRST, LAST, (b, v) -> b.speak(0, v, LAST, 1));
            Edges.outsideOfUsed(checks, ARGUMENT, FIRST, LAST, (b, v) -> b.speak(0, v, v, 1));
        });
        edges.test("- `to`: from to 2000", checks -> {
            years(checks, "from", 1500, 1500, row(1500, 1500, 1));
            years(checks, "from 1400", FIRST, FIRST, row(FIRST, FIRST, 1));
            years(checks, "2000", 1500, LAST, row(1500, LAST, 1));
            for (int each : new int[] {FIRST, 1500, LAST}) {
                int from = each;
                Edges.outsideOfUsed(checks, ARGUMENT, from, LAST, (b, v) -> b.speak(0, from, v, 1));
            }
        });
        edges.test("- `weight`: 1 to 9", checks -> {
            years(checks, "1", 1500, 1500, row(1500, 1600, 1), row(1500, 1500, 1));
            years(checks, "9", 1700, 1700, row(1500, 1600, 8), row(1700, 1700, 9));
            Edges.outsideOfUsed(checks, ARGUMENT, 1, 9, (b, v) -> b.speak(0, 1500, 1600, v));
        });
        edges.test("Returns how many speak.", checks -> {
            for (int each = 0; each < 20; each++) {
                int before = each;
                checks.answers("after " + before, before + 1, spoken(rows(before, 1500, 1600, 1)),
                        b -> b.speak(0, 1500, 1600, 1));
            }
        });
        edges.test("Throws `IndexOutOfBoundsException`", checks -> {
            Edges.always(checks, "book, from also out", PLACE, b -> b.speak(-1, 1399, 1600, 1));
            Edges.always(checks, "book, to also out", PLACE, b -> b.speak(4, 1500, 1499, 1));
            Edges.always(checks, "book, weight also out", PLACE, b -> b.speak(4, 1500, 1600, 10));
        });
        edges.test("Throws `IllegalArgumentException`", checks -> {
            checks.refuses("from out, 20 speak", ARGUMENT, Benches.FULL, b -> b.speak(0, 1399, 1600, 1));
            checks.refuses("to out, 20 speak", ARGUMENT, Benches.FULL, b -> b.speak(0, 1500, 2001, 1));
            checks.refuses("to before from, 20 speak", ARGUMENT, Benches.FULL, b -> b.speak(0, 1500, 1499, 1));
            checks.refuses("weight out, 20 speak", ARGUMENT, Benches.FULL, b -> b.speak(0, 1500, 1600, 0));
            checks.refuses("all", ARGUMENT, Benches.USED, b -> b.speak(0, 2001, 1399, 10));
        });
        edges.test("Throws `IllegalStateException` if there are 20", checks -> {
            checks.refuses("one more", STATE, Benches.FULL, b -> b.speak(0, 1500, 1600, 1));
            checks.refuses("all years", STATE, Benches.FULL, b -> b.speak(0, FIRST, LAST, 9));
            checks.refuses("alike ones", STATE, spoken(rows(20, 1500, 1500, 1)), b -> b.speak(0, 1500, 1500, 1));
        });
    }

    private static void year(Edges edges) {
        edges.section("Promise 29");
        edges.test("Returns the first or the last one of the years of a book.", checks -> {
            checks.answers("first", 1550, Benches.USED, b -> b.year(0, false));
            checks.answers("last", 1600, Benches.USED, b -> b.year(0, true));
            checks.answers("first, 20 speak", 1590, Benches.FULL, b -> b.year(0, false));
            checks.answers("last, 20 speak", 1600, Benches.FULL, b -> b.year(0, true));
        });
        edges.test("- `book`: its number", checks -> {
            checks.answers("the last one", NONE, Benches.FULL, b -> b.year(3, false));
            Edges.noBook(checks, (b, v) -> b.year(v, false));
            Edges.noBook(checks, (b, v) -> b.year(v, true));
        });
        edges.test("- `isLast`: whether the last one is told; otherwise the first one", checks -> {
            checks.answers("first of all years", FIRST, spoken(row(FIRST, LAST, 1)), b -> b.year(0, false));
            checks.answers("last of all years", LAST, spoken(row(FIRST, LAST, 1)), b -> b.year(0, true));
        });
        edges.test("Returns the year; NONE without any.", checks -> {
            checks.answers("first without any", NONE, spoken(), b -> b.year(0, false));
            checks.answers("last without any", NONE, spoken(), b -> b.year(0, true));
            for (int each = FIRST; each <= LAST; each++) {
                int alone = each;
                checks.answers("first", alone, spoken(row(alone, alone, 1)), b -> b.year(0, false));
                checks.answers("last", alone, spoken(row(alone, alone, 1)), b -> b.year(0, true));
            }
        });
        edges.test("Throws `IndexOutOfBoundsException`", checks ->
                checks.refuses("the next book", PLACE, Benches.USED, b -> b.year(2, true)));
    }

    private static void yearAnew(Edges edges) {
        edges.section("Promise 30");
        edges.test("Returns the same, year by year.", checks -> {
            checks.answers("first", 1550, Benches.USED, b -> b.yearAnew(0, false));
            checks.answers("last", 1600, Benches.USED, b -> b.yearAnew(0, true));
            checks.answers("first, 20 speak", 1590, Benches.FULL, b -> b.yearAnew(0, false));
            checks.answers("last, 20 speak", 1600, Benches.FULL, b -> b.yearAnew(0, true));
        });
        edges.test("- `book`: its number", checks -> {
            checks.answers("the last one", NONE, Benches.FULL, b -> b.yearAnew(3, false));
            Edges.noBook(checks, (b, v) -> b.yearAnew(v, false));
            Edges.noBook(checks, (b, v) -> b.yearAnew(v, true));
        });
        edges.test("- `isLast`: whether the last one is told; otherwise the first one", checks -> {
            checks.answers("first of all years", FIRST, spoken(row(FIRST, LAST, 1)), b -> b.yearAnew(0, false));
            checks.answers("last of all years", LAST, spoken(row(FIRST, LAST, 1)), b -> b.yearAnew(0, true));
        });
        edges.test("Returns the year; NONE without any.", checks -> {
            checks.answers("first without any", NONE, spoken(), b -> b.yearAnew(0, false));
            checks.answers("last without any", NONE, spoken(), b -> b.yearAnew(0, true));
            for (int each = FIRST; each <= LAST; each++) {
                int alone = each;
                checks.answers("first", alone, spoken(row(alone, alone, 1)), b -> b.yearAnew(0, false));
                checks.answers("last", alone, spoken(row(alone, alone, 1)), b -> b.yearAnew(0, true));
            }
        });
        edges.test("Throws `IndexOutOfBoundsException`", checks ->
                checks.refuses("the next book", PLACE, Benches.USED, b -> b.yearAnew(2, true)));
    }
}
