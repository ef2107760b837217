/** The edges of the promises 22 to 25, and of what the Terms tell of skins. */
final class SkinEdges {
    private static final Class<?> PLACE = Checks.PLACE, ARGUMENT = Checks.ARGUMENT, STATE = Checks.STATE;

    private SkinEdges() {
    }

    static void run(Edges edges) {
        skins(edges);
        skin(edges);
        pare(edges);
        pareRefused(edges);
        thickAt(edges);
        tooThick(edges);
    }

    // ---- benches and what is seen of them

    private static Checks.Setup skins(int... thicknesses) {
        return bench -> {
            for (int thickness : thicknesses) {
                bench.skin(thickness);
            }
        };
    }

    private static Checks.Setup pared(int thickness, int left, int right, int top, int low, int by) {
        return bench -> {
            bench.skin(thickness);
            bench.pare(0, left, right, top, low, by);
        };
    }

    /** Only the places of these columns and rows are thinner. */
    private static void thinner(Checks checks, int left, int right, int top, int low) {
        MarbleBench bench = Checks.made(pared(20, left, right, top, low, 6));
        for (int place = 0; place < 64; place++) {
            int column = place % 8;
            int row = place / 8;
            boolean isPared = column >= left && column <= right && row >= top && row <= low;
            checks.due("column " + column + ", row " + row, isPared ? 14 : 20, bench.thickAt(0, column, row));
        }
    }

    // ---- Terms

    private static void skins(Edges edges) {
        edges.section("Terms");
        edges.test("Skins are numbered from 0, at most 3: a skin has 8 columns and 8 rows", checks -> {
            checks.answers("the first one", 0, skins(), b -> b.skin(8));
            checks.answers("the second one", 1, skins(8), b -> b.skin(8));
            checks.answers("the third one", 2, skins(8, 8), b -> b.skin(8));
            checks.refuses("one more", STATE, skins(8, 8, 8), b -> b.skin(8));
            MarbleBench bench = Checks.made(skins(8, 30, 19));
            for (int place = 0; place < 64; place++) {
                checks.due("the first one", 8, bench.thickAt(0, place % 8, place / 8));
                checks.due("the second one", 30, bench.thickAt(1, place % 8, place / 8));
                checks.due("the third one", 19, bench.thickAt(2, place % 8, place / 8));
            }
        });
        edges.test("all places of columns and rows in a row; no place may come below 3.", checks -> {
            for (int first = 0; first < 8; first++) {
                for (int last = first; last < 8; last++) {
                    thinner(checks, first, last, 7 - last, 7 - first);
                }
            }
            checks.answers("to 3", 3, skins(8), b -> b.pare(0, 0, 7, 0, 7, 5));
            checks.refuses("to 2", STATE, skins(8), b -> b.pare(0, 0, 7, 0, 7, 6));
            for (int each = 0; each < 64; each++) {
                int column = each % 8;
                int row = each / 8;
                Checks.Setup one = pared(8, column, column, row, row, 1);
                checks.refuses("one place to 2", STATE, one, b -> b.pare(0, 0, 7, 0, 7, 5));
                checks.answers("all places, one to 3", 3, one, b -> b.pare(0, 0, 7, 0, 7, 4));
            }
        });
        edges.test("(column or row 0 or 7) with more than 6, and at each other place with more than 12", checks -> {
            for (int each = 0; each < 64; each++) {
                int column = each % 8;
                int row = each / 8;
                boolean isBorder = column == 0 || column == 7 || row == 0 || row == 7;
                int most = isBorder ? 6 : 12;
                checks.answers("place " + each + " with the most", 63, pared(30, column, column, row, row, 30 - most),
                        b -> b.tooThick(0));
                checks.answers("place " + each + " with 1 more", 64, pared(30, column, column, row, row, 29 - most),
                        b -> b.tooThick(0));
            }
        });
    }

    // ---- Promises

    private static void skin(Edges edges) {
        edges.section("Promise 22");
        edges.test("Brings a skin.", checks -> checks.answers("a place of it", 9, skins(9), b -> b.thickAt(0, 3, 4)));
        edges.test("- `thickness`: 8 to 30", checks -> {
            checks.answers("8", 8, skins(8), b -> b.thickAt(0, 7, 0));
            checks.answers("30", 30, skins(30), b -> b.thickAt(0, 0, 7));
            Edges.outside(checks, ARGUMENT, 8, 30, (b, v) -> b.skin(v));
        });
        edges.test("Returns its number.", checks -> {
            checks.answers("the first one", 0, Benches.EMPTY, b -> b.skin(30));
            checks.answers("the last one", 2, Benches.USED, b -> b.skin(8));
        });
        edges.test("Throws `IllegalArgumentException`", checks -> {
            checks.refuses("one too thin, full", ARGUMENT, Benches.FULL, b -> b.skin(7));
            checks.refuses("one too thick, full", ARGUMENT, Benches.FULL, b -> b.skin(31));
        });
        edges.test("Throws `IllegalStateException` if there are 3", checks -> {
            checks.refuses("the thinnest one", STATE, Benches.FULL, b -> b.skin(8));
            checks.refuses("the thickest one", STATE, Benches.FULL, b -> b.skin(30));
            checks.refuses("the fourth one", STATE, skins(8, 8, 8), b -> b.skin(8));
        });
    }

    private static void pare(Edges edges) {
        edges.section("Promise 23");
        edges.test("Pares places of a skin: columns from one to another one, rows likewise.", checks -> {
            thinner(checks, 2, 5, 1, 3);
            thinner(checks, 1, 3, 2, 5);
        });
        edges.test("- `skin`: its number", checks -> {
            checks.answers("the first one", 7, Benches.FULL, b -> b.pare(0, 0, 0, 0, 0, 1));
            checks.answers("the last one", 8, Benches.FULL, b -> b.pare(2, 0, 0, 1, 1, 1));
            checks.answers("another one stays", 30, Benches.then(Benches.FULL, b -> b.pare(2, 0, 0, 1, 1, 1)),
                    b -> b.thickAt(1, 0, 1));
            Edges.noSkin(checks, (b, v) -> b.pare(v, 0, 0, 0, 0, 1));
        });
        edges.test("- `left`: 0 to 7", checks -> {
            thinner(checks, 0, 7, 3, 3);
            thinner(checks, 7, 7, 3, 3);
            Edges.outsideOfUsed(checks, PLACE, 0, 7, (b, v) -> b.pare(0, v, 7, 3, 3, 1));
        });
        edges.test("- `right`: left to 7", checks -> {
            for (int each = 0; each < 8; each++) {
                int left = each;
                thinner(checks, left, left, 3, 3);
                thinner(checks, left, 7, 3, 3);
                Edges.outsideOfUsed(checks, PLACE, left, 7, (b, v) -> b.pare(0, left, v, 3, 3, 1));
            }
        });
        edges.test("- `top`: 0 to 7", checks -> {
            thinner(checks, 3, 3, 0, 7);
            thinner(checks, 3, 3, 7, 7);
            Edges.outsideOfUsed(checks, PLACE, 0, 7, (b, v) -> b.pare(0, 3, 3, v, 7, 1));
        });
        edges.test("- `low`: top to 7", checks -> {
            for (int each = 0; each < 8; each++) {
                int top = each;
                thinner(checks, 3, 3, top, top);
                thinner(checks, 3, 3, top, 7);
                Edges.outsideOfUsed(checks, PLACE, top, 7, (b, v) -> b.pare(0, 3, 3, top, v, 1));
            }
        });
        edges.test("- `by`: 1 to 27", checks -> {
            checks.answers("1", 29, Benches.then(skins(30), b -> b.pare(0, 3, 3, 3, 3, 1)), b -> b.thickAt(0, 3, 3));
            checks.answers("27", 3, Benches.then(skins(30), b -> b.pare(0, 3, 3, 3, 3, 27)), b -> b.thickAt(0, 3, 3));
            Edges.outsideOfUsed(checks, ARGUMENT, 1, 27, (b, v) -> b.pare(1, 3, 3, 3, 3, v));
        });
        edges.test("Returns the least thickness of these places then.", checks -> {
            checks.answers("all alike", 7, skins(8), b -> b.pare(0, 0, 7, 0, 7, 1));
            checks.answers("the greatest", 29, skins(30), b -> b.pare(0, 0, 0, 0, 0, 1));
            checks.answers("a thinner one at the end", 13, pared(20, 5, 5, 5, 5, 4), b -> b.pare(0, 2, 5, 2, 5, 3));
            checks.answers("a thinner one at first", 13, pared(20, 2, 2, 2, 2, 4), b -> b.pare(0, 2, 5, 2, 5, 3));
            checks.answers("a thinner one beside it", 17, pared(20, 6, 6, 2, 2, 4), b -> b.pare(0, 2, 5, 2, 5, 3));
        });
    }

    private static void pareRefused(Edges edges) {
        edges.section("Promise 23");
        edges.test("Throws `IndexOutOfBoundsException`", checks -> {
            Edges.always(checks, "skin, by also out", PLACE, b -> b.pare(-1, 0, 0, 0, 0, 0));
            Edges.always(checks, "skin, by also out", PLACE, b -> b.pare(3, 0, 0, 0, 0, 28));
            for (int by : new int[] {0, 1, 27, 28}) {
                Edges.always(checks, "right below left, by " + by, PLACE, b -> b.pare(0, 4, 3, 0, 0, by));
                Edges.always(checks, "low below top, by " + by, PLACE, b -> b.pare(0, 0, 0, 4, 3, by));
                Edges.always(checks, "both below, by " + by, PLACE, b -> b.pare(0, 7, 0, 7, 0, by));
                Edges.always(checks, "left and right out, by " + by, PLACE, b -> b.pare(0, 8, 8, 0, 0, by));
                Edges.always(checks, "top and low out, by " + by, PLACE, b -> b.pare(0, 0, 0, -1, -1, by));
            }
        });
        edges.test("Throws `IllegalArgumentException`", checks -> {
            checks.refuses("0, a thinnest place", ARGUMENT, pared(8, 0, 7, 0, 7, 5), b -> b.pare(0, 0, 0, 0, 0, 0));
            checks.refuses("28, and a place would come below 3", ARGUMENT, skins(8), b -> b.pare(0, 0, 0, 0, 0, 28));
            checks.refuses("28, the thickest skin", ARGUMENT, skins(30), b -> b.pare(0, 0, 7, 0, 7, 28));
        });
        edges.test("Throws `IllegalStateException` if a place would come below 3", checks -> {
            for (int each = 8; each <= 30; each++) {
                int thickness = each;
                checks.answers("to 3", 3, skins(thickness), b -> b.pare(0, 0, 7, 0, 7, thickness - 3));
                if (thickness < 30) {
                    checks.refuses("to 2", STATE, skins(thickness), b -> b.pare(0, 0, 7, 0, 7, thickness - 2));
                }
            }
            checks.refuses("far below", STATE, skins(8), b -> b.pare(0, 7, 7, 7, 7, 27));
            checks.refuses("1 off 3", STATE, pared(8, 4, 4, 4, 4, 5), b -> b.pare(0, 4, 4, 4, 4, 1));
            checks.refuses("the last place alone", STATE, pared(30, 7, 7, 7, 7, 27), b -> b.pare(0, 0, 7, 0, 7, 1));
            checks.refuses("the first place alone", STATE, pared(30, 0, 0, 0, 0, 27), b -> b.pare(0, 0, 7, 0, 7, 1));
            checks.answers("without that place", 29, pared(30, 7, 7, 7, 7, 27), b -> b.pare(0, 0, 6, 0, 7, 1));
        });
    }

    private static void thickAt(Edges edges) {
        edges.section("Promise 24");
        edges.test("Returns the thickness of a place of a skin.", checks ->
                checks.answers("pared", 5, Benches.USED, b -> b.thickAt(1, 2, 5)));
        edges.test("- `skin`: its number", checks -> {
            checks.answers("the first one", 8, Benches.FULL, b -> b.thickAt(0, 0, 0));
            checks.answers("the last one", 19, Benches.FULL, b -> b.thickAt(2, 0, 0));
            Edges.noSkin(checks, (b, v) -> b.thickAt(v, 0, 0));
        });
        edges.test("- `column`: 0 to 7", checks -> {
            checks.answers("0", 10, pared(30, 0, 0, 2, 2, 20), b -> b.thickAt(0, 0, 2));
            checks.answers("7", 10, pared(30, 7, 7, 2, 2, 20), b -> b.thickAt(0, 7, 2));
            Edges.outsideOfUsed(checks, PLACE, 0, 7, (b, v) -> b.thickAt(0, v, 2));
        });
        edges.test("- `row`: 0 to 7", checks -> {
            checks.answers("0", 10, pared(30, 2, 2, 0, 0, 20), b -> b.thickAt(0, 2, 0));
            checks.answers("7", 10, pared(30, 2, 2, 7, 7, 20), b -> b.thickAt(0, 2, 7));
            Edges.outsideOfUsed(checks, PLACE, 0, 7, (b, v) -> b.thickAt(0, 2, v));
        });
        edges.test("Returns the thickness.", checks -> {
            checks.answers("the least", 3, pared(30, 7, 7, 7, 7, 27), b -> b.thickAt(0, 7, 7));
            checks.answers("the greatest", 30, pared(30, 7, 7, 7, 7, 27), b -> b.thickAt(0, 6, 7));
        });
        edges.test("Throws `IndexOutOfBoundsException`", checks -> {
            Edges.always(checks, "all", PLACE, b -> b.thickAt(-1, -1, -1));
            Edges.always(checks, "column and row", PLACE, b -> b.thickAt(0, 8, 8));
        });
    }

    private static void tooThick(Edges edges) {
        edges.section("Promise 25");
        edges.test("Counts the places at which a skin is too thick.", checks ->
                checks.answers("8: the border alone", 28, skins(8), b -> b.tooThick(0)));
        edges.test("- `skin`: its number", checks -> {
            checks.answers("the first one", 28, Benches.FULL, b -> b.tooThick(0));
            checks.answers("the second one", 64, Benches.FULL, b -> b.tooThick(1));
            checks.answers("the last one", 64 - 24, Benches.FULL, b -> b.tooThick(2));
            Edges.noSkin(checks, (b, v) -> b.tooThick(v));
        });
        edges.test("Returns how many.", checks -> {
            checks.answers("none", 0, pared(8, 0, 7, 0, 7, 2), b -> b.tooThick(0));
            checks.answers("the border with 7", 28, pared(8, 0, 7, 0, 7, 1), b -> b.tooThick(0));
            checks.answers("12: the border alone", 28, skins(12), b -> b.tooThick(0));
            checks.answers("13: all", 64, skins(13), b -> b.tooThick(0));
        });
        edges.test("Throws `IndexOutOfBoundsException`", checks ->
                checks.refuses("the next skin", PLACE, Benches.USED, b -> b.tooThick(2)));
    }
}
