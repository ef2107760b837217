/** The edges of the promises 17 to 21, and of what the Terms tell of spines and openings. */
final class SpineEdges {
    private static final int THROUGH = MarbleBench.THROUGH, ALONG = MarbleBench.ALONG, BACK = MarbleBench.BACK;
    private static final int UP = MarbleBench.UP;
    private static final int TIGHT = MarbleBench.TIGHT, HOLLOW = MarbleBench.HOLLOW, FLEX = MarbleBench.FLEX;
    private static final Class<?> PLACE = Checks.PLACE, ARGUMENT = Checks.ARGUMENT;

    private SpineEdges() {
    }

    static void run(Edges edges) {
        spines(edges);
        openings(edges);
        back(edges);
        swelling(edges);
        strain(edges);
        worst(edges);
        opens(edges);
    }

    // ---- benches

    private static Checks.Setup book(int gatherings, int leaves, int thickness, int back) {
        return bench -> {
            bench.book(gatherings, leaves, 3, thickness, false);
            bench.back(0, back);
        };
    }

    /** Each gathering of the greatest book has the most stitches that 200 moves allow at the first of them. */
    private static final Checks.Setup MOST_STITCHES = bench -> {
        bench.book(8, 16, 3, 9, false);
        bench.sew(0, THROUGH);
        for (int i = 0; i < 199; i++) {
            bench.sew(0, i % 2 == 0 ? ALONG : BACK);
        }
    };

    private static final Checks.Setup FOUR = bench -> {
        for (int i = 0; i < 4; i++) {
            bench.book(1, 2 + i, 3, 1, false);
            Benches.sew(bench, i, THROUGH, ALONG, BACK);
        }
    };

    // ---- Terms

    private static void spines(Edges edges) {
        edges.section("Terms");
        edges.test("3 times the sum, over its gatherings, of the greatest number of stitches", checks -> {
            checks.answers("no stitch", 0, Benches.sewn(8, 6), b -> b.swelling(0));
            checks.answers("one stitch", 3, Benches.sewn(8, 6, THROUGH, ALONG), b -> b.swelling(0));
            checks.answers("one at each of two parts", 3, Benches.sewn(8, 6, THROUGH, ALONG, ALONG),
                    b -> b.swelling(0));
            checks.answers("two at one of them", 6, Benches.sewn(8, 6, THROUGH, ALONG, ALONG, BACK),
                    b -> b.swelling(0));
            checks.answers("alike ones", 6, Benches.sewn(8, 6, THROUGH, ALONG, ALONG, BACK, BACK), b -> b.swelling(0));
            for (int each = 1; each <= 8; each++) {
                int many = each;
                checks.answers(many + " gatherings", 3 * many, bench -> {
                    bench.book(many, 2, 6, 1, false);
                    Benches.sew(bench, 0, ALONG, ALONG, ALONG, ALONG);
                    for (int at = 0; at < many; at++) {
                        Benches.sew(bench, 0, THROUGH, at % 2 == 0 ? ALONG : BACK, THROUGH);
                        if (at + 1 < many) {
                            bench.sew(0, UP);
                        }
                    }
                }, b -> b.swelling(0));
            }
            checks.answers("1 at the last part, 3 at the first part of the next one", 3 * (1 + 3),
                    Benches.sewn(2, 6, ALONG, ALONG, ALONG, ALONG, THROUGH, ALONG, THROUGH, UP, BACK, BACK, BACK, BACK,
                            THROUGH, BACK, ALONG, BACK), b -> b.swelling(0));
            checks.answers("3 at the last part, 1 at the first part of the next one", 3 * (3 + 1),
                    Benches.sewn(2, 6, ALONG, ALONG, ALONG, ALONG, THROUGH, ALONG, BACK, ALONG, THROUGH, UP, BACK, BACK,
                            BACK, BACK, THROUGH, BACK), b -> b.swelling(0));
            for (int p = 0; p < 5; p++) {
                int part = p;
                checks.answers("the greatest at part " + part, 6, bench -> {
                    bench.book(1, 2, 6, 1, false);
                    for (int i = 0; i < part; i++) {
                        bench.sew(0, ALONG);
                    }
                    Benches.sew(bench, 0, THROUGH, ALONG, BACK);
                }, b -> b.swelling(0));
            }
        });
        edges.test("The back of a book is TIGHT 0, as at first, HOLLOW 1 or FLEX 2.", checks -> {
            checks.due("TIGHT", 0, TIGHT);
            checks.due("HOLLOW", 1, HOLLOW);
            checks.due("FLEX", 2, FLEX);
            for (int each = 0; each < 4; each++) {
                int book = each;
                checks.answers("book " + book, TIGHT, FOUR, b -> b.back(book, FLEX));
            }
        });
    }

    private static void openings(Edges edges) {
        edges.section("Terms");
        edges.test("numbered by how many leaves lie to the left, from 0 to all of them", checks -> {
            for (int gatherings : new int[] {1, 3, 8}) {
                for (int leaves : new int[] {2, 3, 16}) {
                    int all = gatherings * leaves;
                    Checks.Setup one = book(gatherings, leaves, 1, TIGHT);
                    checks.answers("all openings", all + 1, one, b -> b.opens(0, 100000));
                    checks.answers("the last one", 0, one, b -> b.strain(0, all));
                    checks.refuses("one more", ARGUMENT, one, b -> b.strain(0, all + 1));
                }
            }
        });
        edges.test("the lesser one of the leaves to the left and to the right, times their thickness", checks -> {
            int[] times = {4, 1, 2};
            for (int each = TIGHT; each <= FLEX; each++) {
                int back = each;
                for (int at = 0; at <= 7; at++) {
                    int opening = at;
                    int lesser = at <= 3 ? at : 7 - at;
                    checks.answers("back " + back + ", opening " + at + " of 7", lesser * 3 * times[back],
                            book(1, 7, 3, back), b -> b.strain(0, opening));
                }
                for (int at = 0; at <= 128; at++) {
                    int opening = at;
                    int lesser = at <= 64 ? at : 128 - at;
                    checks.answers("back " + back + ", opening " + at + " of 128", lesser * 9 * times[back] + 3 * 199,
                            Benches.then(MOST_STITCHES, b -> b.back(0, back)), b -> b.strain(0, opening));
                }
            }
        });
    }

    // ---- Promises

    private static void back(Edges edges) {
        edges.section("Promise 17");
        edges.test("Gives a book a back.", checks -> {
            checks.answers("its strain", 1, Benches.then(FOUR, b -> b.back(3, HOLLOW)), b -> b.strain(3, 1) - 6);
            checks.answers("another book's", 4, Benches.then(FOUR, b -> b.back(3, HOLLOW)), b -> b.strain(2, 1) - 6);
        });
        edges.test("- `book`: its number", checks -> {
            checks.answers("the first one", FLEX, Benches.USED, b -> b.back(0, TIGHT));
            checks.answers("the last one", TIGHT, Benches.FULL, b -> b.back(3, FLEX));
            Edges.noBook(checks, (b, v) -> b.back(v, TIGHT));
        });
        edges.test("- `back`: TIGHT to FLEX", checks -> {
            for (int each = TIGHT; each <= FLEX; each++) {
                int back = each;
                checks.answers("back " + back, back, Benches.then(FOUR, b -> b.back(0, back)), b -> b.back(0, TIGHT));
            }
            Edges.outsideOfUsed(checks, ARGUMENT, TIGHT, FLEX, (b, v) -> b.back(0, v));
            Edges.outsideOfUsed(checks, ARGUMENT, TIGHT, FLEX, (b, v) -> b.back(1, v));
        });
        edges.test("Returns what it was.", checks -> {
            for (int before = TIGHT; before <= FLEX; before++) {
                for (int after = TIGHT; after <= FLEX; after++) {
                    int first = before;
                    int then = after;
                    checks.answers(first + " then " + then, first, Benches.then(FOUR, b -> b.back(2, first)),
                            b -> b.back(2, then));
                }
            }
        });
        edges.test("Throws `IndexOutOfBoundsException`", checks -> {
            Edges.always(checks, "book, back also out", PLACE, b -> b.back(-1, -1));
            Edges.always(checks, "book, back also out", PLACE, b -> b.back(4, 3));
        });
        edges.test("Throws `IllegalArgumentException`", checks ->
                checks.refuses("of the last book", ARGUMENT, Benches.FULL, b -> b.back(3, 3)));
    }

    private static void swelling(Edges edges) {
        edges.section("Promise 18");
        edges.test("Returns the swelling of a book.", checks ->
                checks.answers("swelling", 3 * (3 + 1), Benches.USED, b -> b.swelling(0)));
        edges.test("- `book`: its number", checks -> {
            checks.answers("the first one", 6, FOUR, b -> b.swelling(0));
            checks.answers("the last one", 6, FOUR, b -> b.swelling(3));
            Edges.noBook(checks, (b, v) -> b.swelling(v));
        });
        edges.test("Returns the swelling.", checks -> {
            checks.answers("the least", 0, Benches.USED, b -> b.swelling(1));
            checks.answers("the greatest", 3 * 199, MOST_STITCHES, b -> b.swelling(0));
            checks.answers("all taken back", 0, Benches.then(MOST_STITCHES, b -> b.unsew(0, 200)), b -> b.swelling(0));
        });
        edges.test("Throws `IndexOutOfBoundsException`", checks ->
                checks.refuses("the next book", PLACE, Benches.USED, b -> b.swelling(2)));
    }

    private static void strain(Edges edges) {
        edges.section("Promise 19");
        edges.test("Returns the strain of an opening.", checks ->
                checks.answers("strain", 5 * 2 * 2 + 12, Benches.USED, b -> b.strain(0, 5)));
        edges.test("- `book`: its number", checks -> {
            checks.answers("the first one", 4 + 6, FOUR, b -> b.strain(0, 1));
            checks.answers("the last one", 8 + 6, FOUR, b -> b.strain(3, 2));
            Edges.noBook(checks, (b, v) -> b.strain(v, 0));
        });
        edges.test("- `opening`: 0 to all its leaves", checks -> {
            checks.answers("0", 12, Benches.USED, b -> b.strain(0, 0));
            checks.answers("all its leaves", 12, Benches.USED, b -> b.strain(0, 15));
            checks.answers("the last but one", 16, Benches.USED, b -> b.strain(0, 14));
            Edges.outsideOfUsed(checks, ARGUMENT, 0, 15, (b, v) -> b.strain(0, v));
            checks.refuses("of another book", ARGUMENT, Benches.USED, b -> b.strain(1, 3));
            checks.refuses("129 of 128", ARGUMENT, Benches.FULL, b -> b.strain(1, 129));
            checks.answers("128 of 128", 0, Benches.FULL, b -> b.strain(1, 128));
        });
        edges.test("Returns the strain.", checks -> {
            checks.answers("the least", 0, Benches.USED, b -> b.strain(1, 0));
            checks.answers("the greatest", 64 * 9 * 4 + 597, MOST_STITCHES, b -> b.strain(0, 64));
        });
        edges.test("Throws `IndexOutOfBoundsException`", checks -> {
            Edges.always(checks, "book, opening also out", PLACE, b -> b.strain(-1, -1));
            Edges.always(checks, "book, opening also out", PLACE, b -> b.strain(4, 129));
        });
        edges.test("Throws `IllegalArgumentException`", checks -> {
            checks.refuses("of the last book", ARGUMENT, Benches.FULL, b -> b.strain(3, 7));
            checks.refuses("of the last book", ARGUMENT, Benches.FULL, b -> b.strain(3, -1));
        });
    }

    private static void worst(Edges edges) {
        edges.section("Promise 20");
        edges.test("Returns the lowest opening with the greatest strain.", checks -> {
            for (int back = TIGHT; back <= FLEX; back++) {
                checks.answers("2 leaves", 1, book(1, 2, 9, back), b -> b.worst(0));
                checks.answers("3 leaves, two alike", 1, book(1, 3, 9, back), b -> b.worst(0));
                checks.answers("15 leaves, two alike", 7, book(5, 3, 9, back), b -> b.worst(0));
                checks.answers("128 leaves", 64, book(8, 16, 1, back), b -> b.worst(0));
            }
        });
        edges.test("- `book`: its number", checks -> {
            checks.answers("the first one", 1, FOUR, b -> b.worst(0));
            checks.answers("the last one", 2, FOUR, b -> b.worst(3));
            Edges.noBook(checks, (b, v) -> b.worst(v));
        });
        edges.test("Returns the opening.", checks -> {
            for (int gatherings = 1; gatherings <= 8; gatherings++) {
                for (int leaves = 2; leaves <= 16; leaves++) {
                    checks.answers("half of the leaves, rounded down", gatherings * leaves / 2,
                            book(gatherings, leaves, 1, HOLLOW), b -> b.worst(0));
                }
            }
            checks.answers("whatever the swelling", 64, MOST_STITCHES, b -> b.worst(0));
        });
        edges.test("Throws `IndexOutOfBoundsException`", checks ->
                checks.refuses("the next book", PLACE, Benches.USED, b -> b.worst(2)));
    }

    private static void opens(Edges edges) {
        edges.section("Promise 21");
        edges.test("Counts the openings with a strain of at most a bound.", checks -> {
            checks.answers("one below a strain", 4, book(1, 4, 2, TIGHT), b -> b.opens(0, 15));
            checks.answers("the strain itself", 5, book(1, 4, 2, TIGHT), b -> b.opens(0, 16));
            checks.answers("of two lesser ones", 4, book(1, 4, 2, TIGHT), b -> b.opens(0, 8));
            checks.answers("one below them", 2, book(1, 4, 2, TIGHT), b -> b.opens(0, 7));
        });
        edges.test("- `book`: its number", checks -> {
            checks.answers("the first one", 2, FOUR, b -> b.opens(0, 6));
            checks.answers("the last one", 6, FOUR, b -> b.opens(3, 14));
            Edges.noBook(checks, (b, v) -> b.opens(v, 0));
        });
        edges.test("- `bound`: 0 to 100000", checks -> {
            checks.answers("0", 2, Benches.USED, b -> b.opens(1, 0));
            checks.answers("0 with a swelling", 0, Benches.USED, b -> b.opens(0, 0));
            checks.answers("100000", 16, Benches.USED, b -> b.opens(0, 100000));
            Edges.outsideOfUsed(checks, ARGUMENT, 0, 100000, (b, v) -> b.opens(0, v));
            Edges.outsideOfUsed(checks, ARGUMENT, 0, 100000, (b, v) -> b.opens(1, v));
        });
        edges.test("Returns how many.", checks -> {
            checks.answers("none, one below the swelling", 0, MOST_STITCHES, b -> b.opens(0, 596));
            checks.answers("the first and the last one", 2, MOST_STITCHES, b -> b.opens(0, 597));
            checks.answers("all but the worst one", 128, MOST_STITCHES, b -> b.opens(0, 2900));
            checks.answers("all", 129, MOST_STITCHES, b -> b.opens(0, 2901));
        });
        edges.test("Throws `IndexOutOfBoundsException`", checks -> {
            Edges.always(checks, "book, bound also out", PLACE, b -> b.opens(-1, -1));
            Edges.always(checks, "book, bound also out", PLACE, b -> b.opens(4, 100001));
        });
        edges.test("Throws `IllegalArgumentException`", checks ->
                checks.refuses("of the last book", ARGUMENT, Benches.FULL, b -> b.opens(3, 100001)));
    }
}
