import java.util.ArrayList;
import java.util.Comparator;
import java.util.List;

/** The edges of the promises 2 to 8, and of what the Terms tell of the bath and of prints. */
final class BathEdges {
    private static final int NONE = MarbleBench.NONE;
    private static final Class<?> PLACE = Checks.PLACE, ARGUMENT = Checks.ARGUMENT, STATE = Checks.STATE;

    private BathEdges() {
    }

    static void run(Edges edges) {
        cells(edges);
        drops(edges);
        combs(edges);
        prints(edges);
        drop(edges);
        comb(edges);
        lift(edges);
        clean(edges);
        cellAt(edges);
        printAt(edges);
        count(edges);
    }

    // ---- benches and what is seen of them

    private static Checks.Setup dropped(int x, int y, int colour, int many) {
        return bench -> bench.drop(x, y, colour, many);
    }

    private static Checks.Setup lifted(Checks.Setup first, int times) {
        return bench -> {
            first.on(bench);
            for (int i = 0; i < times; i++) {
                bench.lift();
            }
        };
    }

    private static int[] bath(MarbleBench bench, int what) {
        int[] seen = new int[64];
        for (int cell = 0; cell < 64; cell++) {
            seen[cell] = bench.cellAt(cell % 8, cell / 8, what);
        }
        return seen;
    }

    private static void alike(Checks checks, String what, int[] due, int[] got) {
        checks.isTrue(what + " is " + List.of(java.util.Arrays.toString(due)) + ", not "
                + java.util.Arrays.toString(got), java.util.Arrays.equals(due, got));
    }

    /** All cells of the bath are without a colour and a strength, but for one. */
    private static void oneCell(Checks checks, String what, MarbleBench bench, int x, int y, int colour, int strength) {
        int[] colours = new int[64];
        java.util.Arrays.fill(colours, NONE);
        colours[8 * y + x] = colour;
        int[] strengths = new int[64];
        strengths[8 * y + x] = strength;
        alike(checks, "colours, " + what, colours, bath(bench, 0));
        alike(checks, "strengths, " + what, strengths, bath(bench, 1));
    }

    private static void allCells(Checks checks, String what, MarbleBench bench, int colour, int strength) {
        int[] due = new int[64];
        java.util.Arrays.fill(due, colour);
        alike(checks, "colours, " + what, due, bath(bench, 0));
        java.util.Arrays.fill(due, strength);
        alike(checks, "strengths, " + what, due, bath(bench, 1));
    }

    /** Colours of a bath in which no two rows or columns are alike. */
    private static int mixedColour(int cell) {
        int x = cell % 8;
        int y = cell / 8;
        return (3 * x + 5 * y + x * y + x / 7 * 2 + y / 7) % 7 - 1;
    }

    private static int mixedStrength(int cell) {
        return mixedColour(cell) == NONE ? 0 : 1 + (cell % 8 + cell / 8 * 3) / 2 % 2;
    }

    private static final Checks.Setup MIXED = bench -> {
        for (int strength = 1; strength <= 2; strength++) {
            for (int cell = 0; cell < 64; cell++) {
                if (mixedStrength(cell) == strength) {
                    bench.drop(cell % 8, cell / 8, mixedColour(cell), 1);
                }
            }
            if (strength == 1) {
                bench.lift();
            }
        }
    };

    // ---- Terms

    private static void cells(Edges edges) {
        edges.section("Terms");
        edges.test("The bath has the cells x, y, 0 to 7 each.", checks -> {
            for (int cell = 0; cell < 64; cell++) {
                int x = cell % 8;
                int y = cell / 8;
                checks.answers("cell " + x + ", " + y, 3, dropped(x, y, 3, 1), b -> b.cellAt(x, y, 0));
            }
            for (int wrong : new int[] {-1, 8}) {
                for (int right = 0; right < 8; right++) {
                    int other = right;
                    checks.refuses("no such x", PLACE, Benches.USED, b -> b.cellAt(wrong, other, 0));
                    checks.refuses("no such y", PLACE, Benches.USED, b -> b.cellAt(other, wrong, 0));
                }
            }
        });
        edges.test("one of the COLOURS 0 to 5", checks -> {
            for (int colour = 0; colour <= 5; colour++) {
                checks.answers("colour", colour, dropped(2, 6, colour, 1), b -> b.cellAt(2, 6, 0));
            }
        });
        edges.test("a STRENGTH, 0 to 2", checks -> {
            checks.answers("none", 0, Benches.EMPTY, b -> b.cellAt(2, 6, 1));
            checks.answers("the greatest", 2, dropped(2, 6, 4, 1), b -> b.cellAt(2, 6, 1));
            checks.answers("one less", 1, lifted(dropped(2, 6, 4, 1), 1), b -> b.cellAt(2, 6, 1));
            checks.answers("never above 2", 2, Benches.then(dropped(2, 6, 4, 1), dropped(2, 6, 4, 1)),
                    b -> b.cellAt(2, 6, 1));
            checks.answers("never below 0", 0, lifted(dropped(2, 6, 4, 1), 3), b -> b.cellAt(2, 6, 1));
        });
        edges.test("no COLOUR and 0 at first", checks -> allCells(checks, "at first", new MarbleBench(), NONE, 0));
    }

    private static List<int[]> inOrder(int x, int y) {
        List<int[]> cells = new ArrayList<>();
        for (int cell = 0; cell < 64; cell++) {
            int dx = cell % 8 - x;
            int dy = cell / 8 - y;
            cells.add(new int[] {dx * dx + dy * dy, cell / 8, cell % 8});
        }
        cells.sort(Comparator.<int[]>comparingInt(c -> c[0]).thenComparingInt(c -> c[1]).thenComparingInt(c -> c[2]));
        return cells;
    }

    private static void drops(Edges edges) {
        edges.section("Terms");
        edges.test("falls on a cell, for so many cells", checks -> {
            for (int at = 0; at < 64; at++) {
                List<int[]> order = inOrder(at % 8, at / 8);
                int[] due = new int[64];
                java.util.Arrays.fill(due, NONE);
                for (int many = 1; many <= 64; many++) {
                    due[8 * order.get(many - 1)[1] + order.get(many - 1)[2]] = 1;
                    MarbleBench bench = Checks.made(dropped(at % 8, at / 8, 1, many));
                    alike(checks, many + " cells from " + at, due, bath(bench, 0));
                }
            }
        });
        edges.test("of alike ones that with the lower y, then the lower x", checks -> {
            checks.answers("1 away, the lower y", 1, dropped(3, 3, 1, 2), b -> b.cellAt(3, 2, 0));
            checks.answers("1 away, then the lower x", 1, dropped(3, 3, 1, 3), b -> b.cellAt(2, 3, 0));
            checks.answers("1 away, then the higher x", 1, dropped(3, 3, 1, 4), b -> b.cellAt(4, 3, 0));
            checks.answers("1 away, not yet the higher y", NONE, dropped(3, 3, 1, 4), b -> b.cellAt(3, 4, 0));
            checks.answers("25 away: 5, 0 has the lowest y", 1, dropped(0, 0, 1, 23), b -> b.cellAt(5, 0, 0));
            checks.answers("25 away: not yet 4, 3", NONE, dropped(0, 0, 1, 23), b -> b.cellAt(4, 3, 0));
            checks.answers("25 away: 4, 3 is next", 1, dropped(0, 0, 1, 24), b -> b.cellAt(4, 3, 0));
            checks.answers("25 away: not yet 3, 4", NONE, dropped(0, 0, 1, 24), b -> b.cellAt(3, 4, 0));
        });
        edges.test("dx times dx and dy times dy, together", checks -> {
            checks.answers("3, 0 (9) after 2, 2 (8)", NONE, dropped(0, 0, 1, 9), b -> b.cellAt(3, 0, 0));
            checks.answers("2, 2 (8)", 1, dropped(0, 0, 1, 9), b -> b.cellAt(2, 2, 0));
            checks.answers("the farthest corner is the last one", NONE, dropped(0, 7, 1, 63), b -> b.cellAt(7, 0, 0));
        });
        edges.test("each that has no COLOUR, or one with the same number or a lower one", BathEdges::ranks);
        edges.test("the others stay as they are", checks -> {
            for (int higher = 1; higher <= 5; higher++) {
                Checks.Setup there = lifted(dropped(7, 0, higher, 1), 1);
                int lower = higher - 1;
                MarbleBench bench = Checks.made(Benches.then(there, dropped(7, 0, lower, 1)));
                oneCell(checks, "a lower drop on " + higher, bench, 7, 0, higher, 1);
            }
            MarbleBench bench = Checks.made(Benches.then(dropped(0, 0, 5, 1), dropped(0, 0, 4, 2)));
            checks.due("a cell that stays is one of so many", NONE, bench.cellAt(0, 1, 0));
            checks.due("the cell behind it", 4, bench.cellAt(1, 0, 0));
        });
    }

    private static void ranks(Checks checks) {
        for (int there = NONE; there <= 5; there++) {
            for (int dropped = 0; dropped <= 5; dropped++) {
                for (int lifts = 0; lifts <= 1; lifts++) {
                    MarbleBench bench = new MarbleBench();
                    if (there != NONE) {
                        bench.drop(4, 5, there, 1);
                    }
                    for (int i = 0; i < lifts; i++) {
                        bench.lift();
                    }
                    boolean takes = there <= dropped;
                    String what = dropped + " on " + there + " after " + lifts + " prints";
                    checks.due(what, takes ? 1 : 0, bench.drop(4, 5, dropped, 1));
                    checks.due("colour, " + what, takes ? dropped : there, bench.cellAt(4, 5, 0));
                    checks.due("strength, " + what, takes ? 2 : 2 - lifts, bench.cellAt(4, 5, 1));
                }
            }
        }
    }

    private static void combs(Edges edges) {
        edges.section("Terms");
        edges.test("what comes beyond an end comes in at the other one", checks -> {
            for (int by = -7; by <= 7; by++) {
                for (int line = 0; line < 8; line++) {
                    combed(checks, true, line, by);
                    combed(checks, false, line, by);
                }
            }
        });
        edges.test("what was at the place p is at p and the number then", checks -> {
            oneCell(checks, "row by 7 from 0", combedCell(0, 4, true, 7), 7, 4, 2, 2);
            oneCell(checks, "row by 7 from 1", combedCell(1, 4, true, 7), 0, 4, 2, 2);
            oneCell(checks, "row by -7 from 7", combedCell(7, 4, true, -7), 0, 4, 2, 2);
            oneCell(checks, "row by -7 from 6", combedCell(6, 4, true, -7), 7, 4, 2, 2);
            oneCell(checks, "column by 7 from 0", combedCell(4, 0, false, 7), 4, 7, 2, 2);
            oneCell(checks, "column by 7 from 1", combedCell(4, 1, false, 7), 4, 0, 2, 2);
            oneCell(checks, "column by -7 from 7", combedCell(4, 7, false, -7), 4, 0, 2, 2);
            oneCell(checks, "column by -7 from 6", combedCell(4, 6, false, -7), 4, 7, 2, 2);
            oneCell(checks, "row by 1 from 7", combedCell(7, 4, true, 1), 0, 4, 2, 2);
            oneCell(checks, "row by -1 from 0", combedCell(0, 4, true, -1), 7, 4, 2, 2);
            oneCell(checks, "by 0", combedCell(0, 4, true, 0), 0, 4, 2, 2);
        });
        edges.test("together (COLOUR and STRENGTH)", checks -> {
            for (boolean isRow : new boolean[] {true, false}) {
                MarbleBench bench = Checks.made(lifted(dropped(7, 7, 4, 1), 1));
                bench.comb(isRow, 7, 1);
                oneCell(checks, "a ghost that comes in", bench, isRow ? 0 : 7, isRow ? 7 : 0, 4, 1);
            }
        });
    }

    private static MarbleBench combedCell(int x, int y, boolean isRow, int by) {
        MarbleBench bench = Checks.made(dropped(x, y, 2, 1));
        bench.comb(isRow, 4, by);
        return bench;
    }

    /** Combs one line of a mixed bath, and looks at all its cells. */
    private static void combed(Checks checks, boolean isRow, int line, int by) {
        MarbleBench bench = Checks.made(MIXED);
        int[] colours = new int[64];
        int[] strengths = new int[64];
        int coloured = 0;
        for (int from = 0; from < 64; from++) {
            int x = from % 8;
            int y = from / 8;
            boolean isOnLine = (isRow ? y : x) == line;
            int to = !isOnLine ? from : isRow ? 8 * y + (x + by + 8) % 8 : 8 * ((y + by + 8) % 8) + x;
            colours[to] = mixedColour(from);
            strengths[to] = mixedStrength(from);
            coloured += isOnLine && mixedColour(from) != NONE ? 1 : 0;
        }
        String what = (isRow ? "row " : "column ") + line + " by " + by;
        checks.due(what, coloured, bench.comb(isRow, line, by));
        alike(checks, "colours, " + what, colours, bath(bench, 0));
        alike(checks, "strengths, " + what, strengths, bath(bench, 1));
    }

    private static void prints(Edges edges) {
        edges.section("Terms");
        edges.test("it has, for each cell, the COLOUR that is there, or none", checks -> {
            MarbleBench bench = Checks.made(MIXED);
            int print = bench.lift();
            for (int cell = 0; cell < 64; cell++) {
                checks.due("cell " + cell, mixedColour(cell), bench.printAt(print, cell % 8, cell / 8));
            }
        });
        edges.test("has the STRENGTH 1 less, and at 0 no COLOUR", checks -> {
            MarbleBench bench = Checks.made(MIXED);
            bench.lift();
            for (int cell = 0; cell < 64; cell++) {
                boolean isStrong = mixedStrength(cell) == 2;
                checks.due("strength of " + cell, isStrong ? 1 : 0, bench.cellAt(cell % 8, cell / 8, 1));
                checks.due("colour of " + cell, isStrong ? mixedColour(cell) : NONE,
                        bench.cellAt(cell % 8, cell / 8, 0));
            }
            bench.lift();
            allCells(checks, "after the ghost", bench, NONE, 0);
            bench.lift();
            allCells(checks, "a clean bath that is lifted", bench, NONE, 0);
        });
        edges.test("Prints are numbered from 0, at most 10", checks -> {
            for (int many = 0; many < 10; many++) {
                checks.answers("print", many, lifted(Benches.EMPTY, many), b -> b.lift());
            }
            checks.refuses("one more", STATE, lifted(Benches.EMPTY, 10), b -> b.lift());
        });
        edges.test("they do not change any more", checks -> {
            for (int last = 0; last < 10; last++) {
                int print = last;
                MarbleBench bench = Checks.made(lifted(Benches.EMPTY, print));
                bench.drop(0, 0, 2, 64);
                bench.lift();
                bench.drop(0, 0, 3, 40);
                bench.comb(true, 0, 3);
                if (print < 9) {
                    bench.lift();
                }
                bench.clean();
                checks.due("a full print, number " + print, 64, bench.count(print, 2));
                for (int before = 0; before < print; before++) {
                    checks.due("an empty print, number " + before, 64, bench.count(before, NONE));
                }
            }
        });
    }

    // ---- Promises

    private static void drop(Edges edges) {
        edges.section("Promise 2");
        edges.test("A drop falls.", checks ->
                oneCell(checks, "one drop", Checks.made(dropped(3, 4, 2, 1)), 3, 4, 2, 2));
        edges.test("- `x`: 0 to 7", checks -> {
            for (int x : new int[] {0, 7}) {
                checks.answers("x " + x, 1, Benches.EMPTY, b -> b.drop(x, 4, 2, 1));
                oneCell(checks, "x " + x, Checks.made(dropped(x, 4, 2, 1)), x, 4, 2, 2);
            }
            Edges.outside(checks, PLACE, 0, 7, (b, v) -> b.drop(v, 4, 2, 1));
        });
        edges.test("- `y`: 0 to 7", checks -> {
            for (int y : new int[] {0, 7}) {
                checks.answers("y " + y, 1, Benches.EMPTY, b -> b.drop(4, y, 2, 1));
                oneCell(checks, "y " + y, Checks.made(dropped(4, y, 2, 1)), 4, y, 2, 2);
            }
            Edges.outside(checks, PLACE, 0, 7, (b, v) -> b.drop(4, v, 2, 1));
        });
        edges.test("- `colour`: 0 to 5", checks -> {
            for (int colour : new int[] {0, 5}) {
                checks.answers("colour " + colour, 1, Benches.EMPTY, b -> b.drop(4, 3, colour, 1));
                oneCell(checks, "colour " + colour, Checks.made(dropped(4, 3, colour, 1)), 4, 3, colour, 2);
            }
            Edges.outside(checks, ARGUMENT, 0, 5, (b, v) -> b.drop(4, 3, v, 1));
        });
        edges.test("- `many`: 1 to 64", checks -> {
            checks.answers("1", 1, Benches.EMPTY, b -> b.drop(4, 3, 2, 1));
            checks.answers("64", 64, Benches.EMPTY, b -> b.drop(4, 3, 2, 64));
            oneCell(checks, "1", Checks.made(dropped(4, 3, 2, 1)), 4, 3, 2, 2);
            allCells(checks, "64", Checks.made(dropped(4, 3, 2, 64)), 2, 2);
            checks.answers("63 leave one", NONE, dropped(4, 3, 2, 63), b -> b.cellAt(0, 7, 0));
            Edges.outside(checks, ARGUMENT, 1, 64, (b, v) -> b.drop(4, 3, 2, v));
        });
        edges.test("Returns how many cells got the COLOUR, those that had it with them.", checks -> {
            checks.answers("none", 0, dropped(4, 3, 3, 1), b -> b.drop(4, 3, 2, 1));
            checks.answers("none of all", 0, dropped(4, 3, 5, 64), b -> b.drop(4, 3, 4, 64));
            checks.answers("one that had it", 1, dropped(4, 3, 2, 1), b -> b.drop(4, 3, 2, 1));
            checks.answers("all that had it", 64, dropped(4, 3, 2, 64), b -> b.drop(0, 0, 2, 64));
            checks.answers("all but one", 63, dropped(4, 3, 3, 1), b -> b.drop(0, 0, 2, 64));
        });
        edges.test("Throws `IndexOutOfBoundsException`", checks -> {
            for (int wrong : new int[] {-1, 8}) {
                Edges.always(checks, "x and y", PLACE, b -> b.drop(wrong, wrong, 2, 1));
                Edges.always(checks, "x, colour first out", PLACE, b -> b.drop(wrong, 0, -1, 1));
                Edges.always(checks, "y, colour first out", PLACE, b -> b.drop(7, wrong, 6, 1));
                Edges.always(checks, "x, many first out", PLACE, b -> b.drop(wrong, 7, 5, 0));
                Edges.always(checks, "y, many first out", PLACE, b -> b.drop(0, wrong, 5, 65));
                Edges.always(checks, "all", PLACE, b -> b.drop(wrong, wrong, 6, 65));
            }
        });
        edges.test("Throws `IllegalArgumentException`", checks -> {
            Edges.always(checks, "colour and many", ARGUMENT, b -> b.drop(0, 0, -1, 0));
            Edges.always(checks, "the other ends", ARGUMENT, b -> b.drop(7, 7, 6, 65));
        });
    }

    private static void comb(Edges edges) {
        edges.section("Promise 3");
        edges.test("Combs a row or a column.", checks -> {
            oneCell(checks, "row", combedCell(1, 4, true, 2), 3, 4, 2, 2);
            oneCell(checks, "column", combedCell(4, 1, false, 2), 4, 3, 2, 2);
        });
        edges.test("- `isRow`", checks -> {
            oneCell(checks, "not of this row", combedCell(1, 4, false, 2), 1, 4, 2, 2);
            oneCell(checks, "not of this column", combedCell(4, 1, true, 2), 4, 1, 2, 2);
        });
        edges.test("- `line`", checks -> {
            for (int line : new int[] {0, 7}) {
                checks.answers("row " + line, 1, dropped(3, line, 2, 1), b -> b.comb(true, line, 1));
                checks.answers("column " + line, 1, dropped(line, 3, 2, 1), b -> b.comb(false, line, 1));
            }
            Edges.outside(checks, PLACE, 0, 7, (b, v) -> b.comb(true, v, 1));
            Edges.outside(checks, PLACE, 0, 7, (b, v) -> b.comb(false, v, 1));
        });
        edges.test("- `by`", checks -> {
            for (int by : new int[] {-7, 0, 7}) {
                checks.answers("row by " + by, 1, dropped(3, 4, 2, 1), b -> b.comb(true, 4, by));
                checks.answers("column by " + by, 1, dropped(4, 3, 2, 1), b -> b.comb(false, 4, by));
            }
            Edges.outside(checks, ARGUMENT, -7, 7, (b, v) -> b.comb(true, 4, v));
            Edges.outside(checks, ARGUMENT, -7, 7, (b, v) -> b.comb(false, 4, v));
        });
        edges.test("Returns how many of its cells have a COLOUR.", checks -> {
            checks.answers("none", 0, Benches.EMPTY, b -> b.comb(true, 0, 7));
            checks.answers("none in this column", 0, dropped(1, 0, 0, 1), b -> b.comb(false, 0, 7));
            checks.answers("all", 8, dropped(0, 0, 0, 64), b -> b.comb(true, 7, -7));
            checks.answers("all of a column", 8, dropped(0, 0, 5, 64), b -> b.comb(false, 7, 0));
            checks.answers("ghosts", 8, lifted(dropped(0, 0, 0, 64), 1), b -> b.comb(true, 7, 3));
            checks.answers("none after the ghost", 0, lifted(dropped(0, 0, 0, 64), 2), b -> b.comb(true, 7, 3));
        });
        edges.test("Throws `IndexOutOfBoundsException`", checks -> {
            for (boolean isRow : new boolean[] {true, false}) {
                Edges.always(checks, "line, by also out", PLACE, b -> b.comb(isRow, -1, -8));
                Edges.always(checks, "line, by also out", PLACE, b -> b.comb(isRow, 8, 8));
            }
        });
        edges.test("Throws `IllegalArgumentException`", checks -> {
            for (int line = 0; line < 8; line++) {
                int right = line;
                checks.refuses("row " + line, ARGUMENT, Benches.USED, b -> b.comb(true, right, 8));
                checks.refuses("column " + line, ARGUMENT, Benches.USED, b -> b.comb(false, right, -8));
            }
        });
    }

    private static void lift(Edges edges) {
        edges.section("Promise 4");
        edges.test("Lifts a print.", checks -> {
            checks.answers("of a clean bath", 64, lifted(Benches.EMPTY, 1), b -> b.count(0, NONE));
            checks.answers("of a full bath", 64, lifted(dropped(0, 0, 0, 64), 1), b -> b.count(0, 0));
            checks.answers("its ghost", 64, lifted(dropped(0, 0, 0, 64), 2), b -> b.count(1, 0));
            checks.answers("nothing after that", 64, lifted(dropped(0, 0, 0, 64), 3), b -> b.count(2, NONE));
        });
        edges.test("Returns its number.", checks -> {
            checks.answers("the first one", 0, Benches.EMPTY, b -> b.lift());
            checks.answers("the third one", 2, Benches.USED, b -> b.lift());
            checks.answers("the last one", 9, lifted(Benches.EMPTY, 9), b -> b.lift());
        });
        edges.test("Throws `IllegalStateException` if there are 10", checks -> {
            checks.refuses("the eleventh one", STATE, lifted(dropped(0, 0, 0, 64), 10), b -> b.lift());
            checks.refuses("full", STATE, Benches.FULL, b -> b.lift());
            Checks.Setup cleaned = Benches.then(lifted(Benches.EMPTY, 10), b -> b.clean());
            checks.refuses("after the bath is cleaned", STATE, cleaned, b -> b.lift());
        });
    }

    private static void clean(Edges edges) {
        edges.section("Promise 5");
        edges.test("no COLOUR and the STRENGTH 0 in all cells; returns how many had a COLOUR.", checks -> {
            checks.answers("a clean one", 0, Benches.EMPTY, b -> b.clean());
            checks.answers("one cell", 1, dropped(7, 7, 0, 1), b -> b.clean());
            checks.answers("a full one", 64, dropped(7, 7, 0, 64), b -> b.clean());
            checks.answers("ghosts", 64, lifted(dropped(7, 7, 5, 64), 1), b -> b.clean());
            checks.answers("after the ghost", 0, lifted(dropped(7, 7, 5, 64), 2), b -> b.clean());
            Checks.Setup cleaned = Benches.then(MIXED, b -> b.clean());
            allCells(checks, "cleaned", Checks.made(cleaned), NONE, 0);
            checks.answers("once more", 0, cleaned, b -> b.clean());
            checks.answers("then a drop of the lowest colour", 64, cleaned, b -> b.drop(0, 0, 0, 64));
        });
    }

    private static void cellAt(Edges edges) {
        edges.section("Promise 6");
        edges.test("Tells something of a cell of the bath.", checks ->
                checks.answers("colour", 2, dropped(3, 4, 2, 1), b -> b.cellAt(3, 4, 0)));
        edges.test("- `x`: 0 to 7", checks -> {
            checks.answers("0", 2, dropped(0, 4, 2, 1), b -> b.cellAt(0, 4, 0));
            checks.answers("7", 2, dropped(7, 4, 2, 1), b -> b.cellAt(7, 4, 0));
            Edges.outside(checks, PLACE, 0, 7, (b, v) -> b.cellAt(v, 4, 0));
            Edges.outside(checks, PLACE, 0, 7, (b, v) -> b.cellAt(v, 4, 1));
        });
        edges.test("- `y`: 0 to 7", checks -> {
            checks.answers("0", 2, dropped(4, 0, 2, 1), b -> b.cellAt(4, 0, 0));
            checks.answers("7", 2, dropped(4, 7, 2, 1), b -> b.cellAt(4, 7, 0));
            Edges.outside(checks, PLACE, 0, 7, (b, v) -> b.cellAt(4, v, 0));
            Edges.outside(checks, PLACE, 0, 7, (b, v) -> b.cellAt(4, v, 1));
        });
        edges.test("- `what`: 0 its COLOUR, NONE without one, 1 its STRENGTH", checks -> {
            checks.answers("0", 5, dropped(0, 0, 5, 1), b -> b.cellAt(0, 0, 0));
            checks.answers("0 without a colour", NONE, Benches.EMPTY, b -> b.cellAt(0, 0, 0));
            checks.answers("1", 2, dropped(0, 0, 5, 1), b -> b.cellAt(0, 0, 1));
            checks.answers("1 without a colour", 0, Benches.EMPTY, b -> b.cellAt(0, 0, 1));
            Edges.outside(checks, ARGUMENT, 0, 1, (b, v) -> b.cellAt(0, 0, v));
        });
        edges.test("Returns the number.", checks -> {
            checks.answers("colour 0", 0, dropped(7, 7, 0, 1), b -> b.cellAt(7, 7, 0));
            checks.answers("strength 1", 1, lifted(dropped(7, 7, 0, 1), 1), b -> b.cellAt(7, 7, 1));
        });
        edges.test("Throws `IndexOutOfBoundsException`", checks -> {
            for (int wrong : new int[] {-1, 8}) {
                Edges.always(checks, "x, what also out", PLACE, b -> b.cellAt(wrong, 0, -1));
                Edges.always(checks, "y, what also out", PLACE, b -> b.cellAt(0, wrong, 2));
                Edges.always(checks, "both", PLACE, b -> b.cellAt(wrong, wrong, 2));
            }
        });
        edges.test("Throws `IllegalArgumentException`", checks -> {
            Edges.always(checks, "in the last cell", ARGUMENT, b -> b.cellAt(7, 7, 2));
            Edges.always(checks, "in the first cell", ARGUMENT, b -> b.cellAt(0, 0, -1));
        });
    }

    private static void printAt(Edges edges) {
        edges.section("Promise 7");
        edges.test("Returns the COLOUR of a cell of a print.", checks ->
                checks.answers("colour", 4, lifted(dropped(3, 6, 4, 1), 1), b -> b.printAt(0, 3, 6)));
        edges.test("- `print`: its number", checks -> {
            Checks.Setup last = lifted(Benches.then(lifted(dropped(3, 6, 4, 1), 9), dropped(3, 6, 1, 1)), 1);
            checks.answers("the first one", 4, last, b -> b.printAt(0, 3, 6));
            checks.answers("the one before the last", NONE, last, b -> b.printAt(8, 3, 6));
            checks.answers("the last one", 1, last, b -> b.printAt(9, 3, 6));
            Edges.noPrint(checks, (b, v) -> b.printAt(v, 3, 6));
        });
        edges.test("- `x`: 0 to 7", checks -> {
            checks.answers("0", 4, lifted(dropped(0, 6, 4, 1), 1), b -> b.printAt(0, 0, 6));
            checks.answers("7", 4, lifted(dropped(7, 6, 4, 1), 1), b -> b.printAt(0, 7, 6));
            Edges.outside(checks, PLACE, 0, 7, (b, v) -> b.printAt(0, v, 6));
        });
        edges.test("- `y`: 0 to 7", checks -> {
            checks.answers("0", 4, lifted(dropped(6, 0, 4, 1), 1), b -> b.printAt(0, 6, 0));
            checks.answers("7", 4, lifted(dropped(6, 7, 4, 1), 1), b -> b.printAt(0, 6, 7));
            Edges.outside(checks, PLACE, 0, 7, (b, v) -> b.printAt(0, 6, v));
        });
        edges.test("Returns the COLOUR; NONE without one.", checks -> {
            checks.answers("0", 0, lifted(dropped(0, 0, 0, 1), 1), b -> b.printAt(0, 0, 0));
            checks.answers("5", 5, lifted(dropped(0, 0, 5, 1), 2), b -> b.printAt(1, 0, 0));
            checks.answers("NONE", NONE, lifted(dropped(0, 0, 5, 1), 3), b -> b.printAt(2, 0, 0));
        });
        edges.test("Throws `IndexOutOfBoundsException`", checks -> {
            Edges.always(checks, "print and x", PLACE, b -> b.printAt(-1, -1, 0));
            Edges.always(checks, "print and y", PLACE, b -> b.printAt(10, 0, 8));
            Edges.always(checks, "x and y", PLACE, b -> b.printAt(0, 8, -1));
        });
    }

    private static void count(Edges edges) {
        edges.section("Promise 8");
        edges.test("Counts the cells of a print with a COLOUR.", checks ->
                checks.answers("count", 9, lifted(dropped(3, 6, 4, 9), 1), b -> b.count(0, 4)));
        edges.test("- `print`: its number", checks -> {
            Checks.Setup last = lifted(Benches.then(lifted(dropped(3, 6, 4, 5), 9), dropped(3, 6, 1, 3)), 1);
            checks.answers("the first one", 5, last, b -> b.count(0, 4));
            checks.answers("the one before the last", 0, last, b -> b.count(8, 1));
            checks.answers("the last one", 3, last, b -> b.count(9, 1));
            Edges.noPrint(checks, (b, v) -> b.count(v, 4));
        });
        edges.test("- `colour`: NONE to 5: NONE for those without one", checks -> {
            Checks.Setup all = lifted(Benches.then(dropped(0, 0, 0, 21), dropped(0, 0, 5, 8)), 1);
            checks.answers("NONE", 43, all, b -> b.count(0, NONE));
            checks.answers("0", 13, all, b -> b.count(0, 0));
            checks.answers("5", 8, all, b -> b.count(0, 5));
            Edges.outsideOfUsed(checks, ARGUMENT, NONE, 5, (b, v) -> b.count(0, v));
        });
        edges.test("Returns how many.", checks -> {
            checks.answers("none", 0, lifted(Benches.EMPTY, 1), b -> b.count(0, 0));
            checks.answers("all without one", 64, lifted(Benches.EMPTY, 1), b -> b.count(0, NONE));
            checks.answers("all with one", 64, lifted(dropped(0, 0, 5, 64), 1), b -> b.count(0, 5));
            checks.answers("none without one", 0, lifted(dropped(0, 0, 5, 64), 1), b -> b.count(0, NONE));
        });
        edges.test("Throws `IndexOutOfBoundsException`", checks -> {
            Edges.always(checks, "print, colour also out", PLACE, b -> b.count(-1, -2));
            Edges.always(checks, "print, colour also out", PLACE, b -> b.count(10, 6));
            checks.refuses("the next print", PLACE, Benches.USED, b -> b.count(2, 6));
        });
        edges.test("Throws `IllegalArgumentException`", checks -> {
            checks.refuses("in the last print", ARGUMENT, Benches.FULL, b -> b.count(9, 6));
            checks.refuses("in the last print", ARGUMENT, Benches.FULL, b -> b.count(9, -2));
        });
    }
}
