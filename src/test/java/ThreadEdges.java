import java.util.Arrays;

/** The edges of the promises 11 to 16, and of what the Terms tell of books and threads. */
final class ThreadEdges {
    private static final int THROUGH = MarbleBench.THROUGH, ALONG = MarbleBench.ALONG, BACK = MarbleBench.BACK;
    private static final int UP = MarbleBench.UP, DOWN = MarbleBench.DOWN;
    private static final Class<?> PLACE = Checks.PLACE, ARGUMENT = Checks.ARGUMENT, STATE = Checks.STATE;

    private ThreadEdges() {
    }

    static void run(Edges edges) {
        books(edges);
        moves(edges);
        held(edges);
        book(edges);
        sew(edges);
        unsew(edges);
        ofThread(edges);
        stitches(edges);
        isHeld(edges);
    }

    // ---- benches and what is seen of them

    private static Checks.Setup manyBooks(int many) {
        return bench -> {
            for (int i = 0; i < many; i++) {
                bench.book(1 + i, 2 + i, 3 + i, 1 + i, i % 2 == 0);
            }
        };
    }

    /** So many moves through the hole of the first station. */
    private static Checks.Setup throughs(int many) {
        int[] moves = new int[many];
        return Benches.sewn(2, 3, moves);
    }

    private static int[] times(int move, int many) {
        int[] moves = new int[many];
        Arrays.fill(moves, move);
        return moves;
    }

    private static int[] joined(int[]... parts) {
        return Arrays.stream(parts).flatMapToInt(Arrays::stream).toArray();
    }

    private static int[] of(int... moves) {
        return moves;
    }

    private static void thread(Checks checks, String what, Checks.Setup setup, int... due) {
        String[] names = {"length", "gathering", "station", "inside", "moves", "sewn"};
        for (int i = 0; i < due.length; i++) {
            int asked = i;
            checks.answers(names[i] + " " + what, due[i], setup, b -> b.ofThread(0, asked));
        }
    }

    // ---- Terms

    private static void books(Edges edges) {
        edges.section("Terms");
        edges.test("Books are numbered from 0, at most 4", checks -> {
            for (int many = 0; many < 4; many++) {
                checks.answers("book", many, manyBooks(many), b -> b.book(1, 2, 3, 1, true));
            }
            checks.refuses("one more", STATE, manyBooks(4), b -> b.book(1, 2, 3, 1, true));
        });
        edges.test("a book has 1 to 8 gatherings, each with so many leaves, 2 to 16, and stations, 3 to 6, numbered "
                + "from 0, each of its leaves with a thickness, 1 to 9; it is old, or not", ThreadEdges::allBooks);
        edges.test("is outside, at the gathering 0 and the station 0 at first, with a length of 0.", checks -> {
            for (int book = 0; book < 4; book++) {
                for (int what = 0; what <= 5; what++) {
                    int number = book;
                    int asked = what;
                    checks.answers("book " + book + ", " + what, 0, manyBooks(4), b -> b.ofThread(number, asked));
                }
            }
            checks.answers("outside: it can go up", 4, Benches.sewn(2, 3), b -> b.sew(0, UP));
            checks.refuses("nothing to take back", STATE, Benches.sewn(2, 3), b -> b.unsew(0, 1));
        });
    }

    /** A book of each kind, with its last place, opening and strain, and what lies just beyond them. */
    private static void allBooks(Checks checks) {
        for (int kind = 0; kind < 8 * 15 * 4 * 9 * 2; kind++) {
            boolean isOld = kind % 2 == 1;
            int thickness = 1 + kind / 2 % 9;
            int stations = 3 + kind / 18 % 4;
            int leaves = 2 + kind / 72 % 15;
            int gatherings = 1 + kind / 1080;
            MarbleBench bench = new MarbleBench();
            String what = gatherings + " gatherings, " + leaves + " leaves, " + stations + " stations, " + thickness;
            checks.due(what, 0, bench.book(gatherings, leaves, stations, thickness, isOld));
            checks.due("last part, " + what, 0, bench.stitches(0, gatherings - 1, stations - 2));
            checks.due("last opening but one, " + what, 4 * thickness, bench.strain(0, gatherings * leaves - 1));
            checks.due("last opening, " + what, 0, bench.strain(0, gatherings * leaves));
            due(checks, "beyond the last part, " + what, PLACE, bench, b -> b.stitches(0, 0, stations - 1));
            due(checks, "beyond the last gathering, " + what, PLACE, bench, b -> b.stitches(0, gatherings, 0));
            due(checks, "beyond the last opening, " + what, ARGUMENT, bench, b -> b.strain(0, gatherings * leaves + 1));
            String repaired = Checks.answerOf(bench, b -> b.repair(0, 4));
            checks.isTrue("repaired by 4, " + what, repaired.equals(isOld ? STATE.getName() : "1"));
        }
    }

    private static void due(Checks checks, String what, Class<?> due, MarbleBench bench, Checks.Ask call) {
        String got = Checks.answerOf(bench, call);
        checks.isTrue(what + " answered " + got + ": that it is " + due.getName(), got.equals(due.getName()));
    }

    private static void moves(Edges edges) {
        edges.section("Terms");
        edges.test("through the hole of the station, from outside to inside, or from inside to outside", checks -> {
            thread(checks, "inside", Benches.sewn(2, 3, THROUGH), 0, 0, 0, 1, 1, 0);
            thread(checks, "outside again", Benches.sewn(2, 3, THROUGH, THROUGH), 0, 0, 0, 0, 2, 0);
            thread(checks, "at the last station", Benches.sewn(2, 3, ALONG, ALONG, THROUGH), 20, 0, 2, 1, 3, 0);
        });
        edges.test("ALONG 1: to the next station, BACK 2: to the one before, inside or outside", BothSides::along);
        edges.test("UP 3: to the same station of the next gathering, DOWN 4: of the one before, outside alone",
                BothSides::up);
        edges.test("lay a stitch at the part between both stations; parts are numbered by the lower one of both",
                ThreadEdges::laid);
        edges.test("UP and DOWN link both gatherings.", checks -> {
            Checks.Setup three = Benches.sewn(3, 3, THROUGH, ALONG, THROUGH, UP, THROUGH, BACK, THROUGH, UP,
                    THROUGH, ALONG, THROUGH);
            checks.answers("all linked", 1, three, b -> b.ofThread(0, 5));
            checks.answers("a link by UP and DOWN, one taken back", 1,
                    Benches.then(three, b -> {
                        b.sew(0, DOWN);
                        b.unsew(0, 1);
                    }), b -> b.ofThread(0, 5));
            checks.answers("after DOWN", 1, Benches.then(three, b -> b.sew(0, DOWN)), b -> b.ofThread(0, 5));
            for (int at = 0; at <= 2; at++) {
                int station = at;
                checks.answers("links made again at station " + station, 1, b -> linkedAnew(b, station),
                        b -> b.ofThread(0, 5));
            }
        });
        edges.test("The latest moves can be taken back: all is as if they had not been.", ThreadEdges::takenBack);
    }

    /** Goes up at this station; each way up is made and taken back, with and without one down, and made again. */
    private static void linkedAnew(MarbleBench bench, int station) {
        int[] stitched = station == 0 ? of(THROUGH, ALONG, BACK, THROUGH) : of(THROUGH, BACK, ALONG, THROUGH);
        bench.book(8, 2, 3, 1, false);
        Benches.sew(bench, 0, joined(times(ALONG, station), stitched));
        for (int gathering = 1; gathering < 8; gathering++) {
            bench.sew(0, UP);
            bench.unsew(0, 1);
            Benches.sew(bench, 0, UP, DOWN);
            bench.unsew(0, 2);
            Benches.sew(bench, 0, joined(of(UP), stitched));
        }
    }

    /** Moves along the stations and over the gatherings, up to the last one and not beyond. */
    private static final class BothSides {
        private static void along(Checks checks) {
            for (int stations = 3; stations <= 6; stations++) {
                int last = stations - 1;
                for (int inside = 0; inside <= 1; inside++) {
                    int[] start = times(THROUGH, inside);
                    int[] there = joined(start, times(ALONG, last));
                    int[] andBack = joined(there, times(BACK, last));
                    String what = inside + ", of " + stations;
                    Checks.Setup atStart = Benches.sewn(1, stations, start);
                    Checks.Setup atEnd = Benches.sewn(1, stations, there);
                    Checks.Setup atStartAgain = Benches.sewn(1, stations, andBack);
                    thread(checks, "at the last station " + what, atEnd, 10 * last, 0, last, inside, last + inside);
                    thread(checks, "at the first " + what, atStartAgain, 20 * last, 0, 0, inside, 2 * last + inside);
                    checks.refuses("before the first one " + what, STATE, atStart, b -> b.sew(0, BACK));
                    checks.refuses("before it again " + what, STATE, atStartAgain, b -> b.sew(0, BACK));
                    checks.refuses("beyond the last one " + what, STATE, atEnd, b -> b.sew(0, ALONG));
                }
            }
        }

        private static void up(Checks checks) {
            for (int gatherings = 1; gatherings <= 8; gatherings++) {
                int last = gatherings - 1;
                int[] there = joined(of(ALONG), times(UP, last));
                int[] andBack = joined(there, times(DOWN, last));
                Checks.Setup atStart = Benches.sewn(gatherings, 3);
                Checks.Setup atEnd = Benches.sewn(gatherings, 3, there);
                Checks.Setup atStartAgain = Benches.sewn(gatherings, 3, andBack);
                String what = "of " + gatherings;
                thread(checks, "at the last gathering " + what, atEnd, 10 + 4 * last, last, 1, 0, gatherings);
                thread(checks, "at the first one " + what, atStartAgain, 10 + 8 * last, 0, 1, 0, 2 * gatherings - 1);
                checks.refuses("below the first one " + what, STATE, atStart, b -> b.sew(0, DOWN));
                checks.refuses("below it again " + what, STATE, atStartAgain, b -> b.sew(0, DOWN));
                checks.refuses("above the last one " + what, STATE, atEnd, b -> b.sew(0, UP));
            }
            for (int move : new int[] {UP, DOWN}) {
                Checks.Setup outside = Benches.sewn(3, 3, UP, THROUGH, THROUGH);
                checks.answers("outside, " + move, 8, outside, b -> b.sew(0, move));
                Checks.Setup inside = Benches.sewn(3, 3, UP, THROUGH);
                checks.refuses("inside, " + move, STATE, inside, b -> b.sew(0, move));
            }
        }
    }

    /** Each part of the largest book gets one stitch by ALONG and one by BACK; none comes from outside. */
    private static void laid(Checks checks) {
        for (int at = 0; at < 8; at++) {
            for (int p = 0; p < 5; p++) {
                int gathering = at;
                int part = p;
                int[] outside = joined(times(UP, gathering), times(ALONG, part), of(ALONG, BACK));
                int[] along = joined(outside, of(THROUGH, ALONG));
                int[] both = joined(along, of(BACK));
                checks.answers("from outside", 0, Benches.sewn(8, 6, outside), b -> b.stitches(0, gathering, part));
                checks.answers("by ALONG", 1, Benches.sewn(8, 6, along), b -> b.stitches(0, gathering, part));
                checks.answers("by both", 2, Benches.sewn(8, 6, both), b -> b.stitches(0, gathering, part));
                MarbleBench bench = Checks.made(Benches.sewn(8, 6, both));
                int sum = 0;
                for (int each = 0; each < 40; each++) {
                    sum += bench.stitches(0, each / 5, each % 5);
                }
                checks.due("at all parts together", 2, sum);
            }
        }
    }

    private static void takenBack(Checks checks) {
        int[] moves = {THROUGH, ALONG, ALONG, BACK, THROUGH, UP, ALONG, THROUGH, BACK, BACK, THROUGH, UP, DOWN, ALONG,
            THROUGH, ALONG, THROUGH, DOWN, BACK, UP};
        for (int many = 1; many <= moves.length; many++) {
            int back = many;
            int[] fewer = Arrays.copyOf(moves, moves.length - many);
            checks.alike(many + " at once", Benches.sewn(3, 4, fewer),
                    Benches.then(Benches.sewn(3, 4, moves), b -> b.unsew(0, back)));
            checks.alike(many + " one by one", Benches.sewn(3, 4, fewer),
                    Benches.then(Benches.sewn(3, 4, moves), b -> {
                        for (int i = 0; i < back; i++) {
                            b.unsew(0, 1);
                        }
                    }));
            int[] same = Arrays.copyOfRange(moves, moves.length - many, moves.length);
            checks.alike(many + " made again", Benches.sewn(3, 4, moves),
                    Benches.then(Benches.sewn(3, 4, moves), b -> {
                        b.unsew(0, back);
                        Benches.sew(b, 0, same);
                    }));
        }
    }

    private static void held(Edges edges) {
        edges.section("Terms");
        edges.test("as many of its parts as half of its stations, rounded down, or more have a stitch", checks -> {
            int[] half = {0, 0, 0, 1, 2, 2, 3};
            for (int stations = 3; stations <= 6; stations++) {
                for (int parts = 0; parts < 1 << stations - 1; parts++) {
                    String what = "parts " + Integer.toBinaryString(parts) + " of " + stations + " stations";
                    checks.answers(what, Integer.bitCount(parts) < half[stations] ? 0 : 1,
                            Benches.sewn(1, stations, stitchesAt(parts, stations)), b -> Checks.bit(b.isHeld(0, 0)));
                }
            }
            int[] onePart = of(THROUGH, ALONG, BACK, ALONG, BACK, ALONG, BACK);
            for (int stations = 3; stations <= 6; stations++) {
                checks.answers("many stitches at one part of " + stations, stations == 3 ? 1 : 0,
                        Benches.sewn(1, stations, onePart), b -> Checks.bit(b.isHeld(0, 0)));
            }
        });
        edges.test("A gathering is held, if as many of its parts", checks -> {
            int[] upToTheNext = joined(times(ALONG, 3), of(THROUGH, ALONG, ALONG, THROUGH, UP), times(BACK, 3),
                    of(THROUGH, BACK, BACK));
            Checks.Setup two = Benches.sewn(2, 6, upToTheNext);
            checks.answers("the parts 3 and 4, of 6 stations", 0, two, b -> Checks.bit(b.isHeld(0, 0)));
            checks.answers("the parts 0 and 1 of the next one", 0, two, b -> Checks.bit(b.isHeld(0, 1)));
            Checks.Setup three = Benches.then(two, b -> Benches.sew(b, 0, THROUGH, ALONG, ALONG, THROUGH, ALONG));
            checks.answers("another part of the next one", 1, three, b -> Checks.bit(b.isHeld(0, 1)));
            checks.answers("still the parts 3 and 4 alone", 0, three, b -> Checks.bit(b.isHeld(0, 0)));
        });
        edges.test("if each gathering is held, each is linked with the next one, and the thread is outside.",
                ThreadEdges::sewn);
    }

    /** Leads the thread along all stations, inside at these parts (one bit for each) and outside at the others. */
    private static int[] stitchesAt(int parts, int stations) {
        int[] moves = {};
        boolean isInside = false;
        for (int part = 0; part < stations - 1; part++) {
            boolean isStitched = (parts >> part & 1) == 1;
            moves = joined(moves, isStitched == isInside ? of(ALONG) : of(THROUGH, ALONG));
            isInside = isStitched;
        }
        return moves;
    }

    private static void sewn(Checks checks) {
        for (int gatherings = 1; gatherings <= 8; gatherings++) {
            int[] moves = of(THROUGH, ALONG, THROUGH);
            for (int at = 1; at < gatherings; at++) {
                moves = joined(moves, of(UP, THROUGH, at % 2 == 1 ? BACK : ALONG, THROUGH));
            }
            int[] all = moves;
            int count = moves.length;
            String what = gatherings + " gatherings";
            checks.answers(what, 1, Benches.sewn(gatherings, 3, all), b -> b.ofThread(0, 5));
            checks.answers(what + ", inside again", 0, Benches.sewn(gatherings, 3, joined(all, of(THROUGH))),
                    b -> b.ofThread(0, 5));
            checks.answers(what + ", still inside", 0, Benches.sewn(gatherings, 3, Arrays.copyOf(all, count - 1)),
                    b -> b.ofThread(0, 5));
            int[] lastNotHeld = joined(Arrays.copyOf(all, count - 2), of(THROUGH));
            checks.answers(what + ", the last one not held", 0, Benches.sewn(gatherings, 3, lastNotHeld),
                    b -> b.ofThread(0, 5));
            for (int bare = 0; bare < gatherings; bare++) {
                Checks.Setup but = Benches.sewn(gatherings, 3, bareAt(gatherings, bare));
                checks.answers(what + ", " + bare + " not held", 0, but, b -> b.ofThread(0, 5));
            }
        }
    }

    /** Each gathering gets the one stitch that holds it (half of 3 stations), but for one that is passed by. */
    private static int[] bareAt(int gatherings, int bare) {
        int[] moves = {};
        int station = 0;
        for (int at = 0; at < gatherings; at++) {
            moves = at == 0 ? moves : joined(moves, of(UP));
            if (at != bare) {
                moves = joined(moves, of(THROUGH, station == 0 ? ALONG : BACK, THROUGH));
                station = 1 - station;
            }
        }
        return moves;
    }

    // ---- Promises

    private static void book(Edges edges) {
        edges.section("Promise 11");
        edges.test("Begins a book.", checks -> {
            Checks.Setup one = b -> b.book(2, 3, 4, 5, false);
            thread(checks, "at first", one, 0, 0, 0, 0, 0, 0);
            checks.answers("no swelling", 0, one, b -> b.swelling(0));
            checks.answers("tight", MarbleBench.TIGHT, one, b -> b.back(0, MarbleBench.FLEX));
            checks.answers("no repair", 1, one, b -> b.repair(0, 0));
            checks.answers("nothing speaks", 1, one, b -> b.speak(0, 1400, 1400, 1));
        });
        edges.test("- `gatherings`: 1 to 8", checks -> {
            for (int many : new int[] {1, 8}) {
                Checks.Setup one = b -> b.book(many, 3, 3, 1, false);
                checks.answers("the last gathering of " + many, 0, one, b -> b.stitches(0, many - 1, 0));
                checks.refuses("one more than " + many, PLACE, one, b -> b.stitches(0, many, 0));
                checks.answers("leaves of " + many, 0, one, b -> b.strain(0, 3 * many));
            }
            notInRange(checks, 1, 8, (b, v) -> b.book(v, 2, 3, 1, false));
        });
        edges.test("- `leaves`: 2 to 16 in each", checks -> {
            for (int many : new int[] {2, 16}) {
                for (int gatherings : new int[] {1, 8}) {
                    Checks.Setup one = b -> b.book(gatherings, many, 3, 1, false);
                    int all = many * gatherings;
                    checks.answers("all of " + all, 0, one, b -> b.strain(0, all));
                    checks.refuses("one more than " + all, ARGUMENT, one, b -> b.strain(0, all + 1));
                }
            }
            notInRange(checks, 2, 16, (b, v) -> b.book(1, v, 3, 1, false));
        });
        edges.test("- `stations`: 3 to 6", checks -> {
            for (int many : new int[] {3, 6}) {
                Checks.Setup one = b -> b.book(1, 2, many, 1, false);
                checks.answers("the last part of " + many, 0, one, b -> b.stitches(0, 0, many - 2));
                checks.refuses("one more part than of " + many, PLACE, one, b -> b.stitches(0, 0, many - 1));
                Checks.Setup atEnd = Benches.sewn(1, many, times(ALONG, many - 1));
                checks.answers("the last station of " + many, many - 1, atEnd, b -> b.ofThread(0, 2));
                checks.refuses("one more than " + many, STATE, atEnd, b -> b.sew(0, ALONG));
            }
            notInRange(checks, 3, 6, (b, v) -> b.book(1, 2, v, 1, false));
        });
        edges.test("- `thickness`: 1 to 9", checks -> {
            checks.answers("1", 4, b -> b.book(1, 2, 3, 1, false), b -> b.strain(0, 1));
            checks.answers("9", 36, b -> b.book(1, 2, 3, 9, false), b -> b.strain(0, 1));
            notInRange(checks, 1, 9, (b, v) -> b.book(1, 2, 3, v, false));
        });
        edges.test("- `isOld`: whether it is old", checks -> {
            checks.answers("not old", 1, b -> b.book(1, 2, 3, 1, false), b -> b.repair(0, 3));
            checks.refuses("old", STATE, b -> b.book(1, 2, 3, 1, true), b -> b.repair(0, 3));
        });
        edges.test("Returns its number.", checks -> {
            checks.answers("the first one", 0, Benches.EMPTY, b -> b.book(1, 2, 3, 1, true));
            checks.answers("the third one", 2, Benches.USED, b -> b.book(8, 16, 6, 9, false));
            checks.answers("the last one", 3, manyBooks(3), b -> b.book(8, 16, 6, 9, true));
        });
        edges.test("Throws `IllegalArgumentException`", checks -> {
            Edges.always(checks, "all too small", ARGUMENT, b -> b.book(0, 1, 2, 0, true));
            Edges.always(checks, "all too large", ARGUMENT, b -> b.book(9, 17, 7, 10, true));
        });
        edges.test("Throws `IllegalStateException` if there are 4", checks -> {
            checks.refuses("the least book", STATE, Benches.FULL, b -> b.book(1, 2, 3, 1, false));
            checks.refuses("the greatest book", STATE, Benches.FULL, b -> b.book(8, 16, 6, 9, true));
            checks.refuses("four alike", STATE, manyBooks(4), b -> b.book(1, 2, 3, 1, true));
        });
    }

    private static void notInRange(Checks checks, int least, int greatest, Checks.AskWith call) {
        Edges.outside(checks, ARGUMENT, least, greatest, call);
        checks.refuses("the last free number", ARGUMENT, manyBooks(3), b -> call.of(b, least - 1));
    }

    private static void sew(Edges edges) {
        edges.section("Promise 12");
        edges.test("Moves the thread of a book.", checks -> {
            Checks.Setup two = b -> {
                b.book(2, 2, 3, 1, false);
                b.book(2, 2, 3, 1, false);
                b.sew(1, ALONG);
            };
            checks.answers("its own", 1, two, b -> b.ofThread(1, 2));
            checks.answers("not another book's", 0, two, b -> b.ofThread(0, 2));
        });
        edges.test("- `book`: its number", checks -> {
            checks.answers("the first one", 10, manyBooks(4), b -> b.sew(0, ALONG));
            checks.answers("the last one", 10, manyBooks(4), b -> b.sew(3, ALONG));
            Edges.noBook(checks, (b, v) -> b.sew(v, THROUGH));
        });
        edges.test("- `move`: THROUGH to DOWN", checks -> {
            Checks.Setup between = Benches.sewn(3, 3, ALONG, UP);
            thread(checks, "by THROUGH", Benches.then(between, b -> b.sew(0, THROUGH)), 14, 1, 1, 1, 3);
            thread(checks, "by DOWN", Benches.then(between, b -> b.sew(0, DOWN)), 18, 0, 1, 0, 3);
            Edges.outsideOfUsed(checks, ARGUMENT, THROUGH, DOWN, (b, v) -> b.sew(0, v));
            Edges.outsideOfUsed(checks, ARGUMENT, THROUGH, DOWN, (b, v) -> b.sew(1, v));
        });
        edges.test("Returns the length then.", checks -> {
            Checks.Setup between = Benches.sewn(3, 3, ALONG, UP);
            int[] due = {14, 24, 24, 18, 18};
            for (int each = THROUGH; each <= DOWN; each++) {
                int move = each;
                checks.answers("by " + move, due[move], between, b -> b.sew(0, move));
            }
            checks.answers("the first move", 0, Benches.sewn(3, 3), b -> b.sew(0, THROUGH));
            checks.answers("the greatest length", 1990, Benches.then(Benches.sewn(1, 3, THROUGH),
                    ThreadEdges::toAndFro), b -> b.sew(0, ALONG));
        });
        edges.test("Throws `IndexOutOfBoundsException`", checks -> {
            Edges.always(checks, "book, move also out", PLACE, b -> b.sew(-1, -1));
            Edges.always(checks, "book, move also out", PLACE, b -> b.sew(4, 5));
            checks.refuses("the next book, move also out", PLACE, Benches.USED, b -> b.sew(2, 5));
        });
        edges.test("Throws `IllegalArgumentException`", checks -> {
            checks.refuses("move below, 200 moves", ARGUMENT, Benches.FULL, b -> b.sew(0, -1));
            checks.refuses("move above, 200 moves", ARGUMENT, Benches.FULL, b -> b.sew(0, 5));
            checks.refuses("move above, inside", ARGUMENT, Benches.USED, b -> b.sew(0, 5));
        });
        edges.test("if there is no such station or gathering, it is UP or DOWN inside, or there are 200 moves",
                ThreadEdges::sewRefused);
    }

    /** 198 moves: the ones ahead of the last one that leads to 200. */
    private static void toAndFro(MarbleBench bench) {
        for (int i = 0; i < 99; i++) {
            Benches.sew(bench, 0, ALONG, BACK);
        }
    }

    private static void sewRefused(Checks checks) {
        checks.refuses("no station before", STATE, Benches.sewn(1, 3), b -> b.sew(0, BACK));
        checks.refuses("no station behind", STATE, Benches.sewn(1, 3, ALONG, ALONG), b -> b.sew(0, ALONG));
        checks.refuses("no gathering below", STATE, Benches.sewn(1, 3), b -> b.sew(0, DOWN));
        checks.refuses("no gathering above", STATE, Benches.sewn(1, 3), b -> b.sew(0, UP));
        for (int move : new int[] {UP, DOWN}) {
            checks.refuses("inside, " + move, STATE, Benches.sewn(3, 3, UP, THROUGH), b -> b.sew(0, move));
            checks.refuses("inside and none there, " + move, STATE, Benches.sewn(1, 3, THROUGH), b -> b.sew(0, move));
        }
        Checks.Setup almost = Benches.sewn(3, 5, joined(of(ALONG, ALONG, UP), times(THROUGH, 196)));
        int[] due = {24, 34, 34, 28, 28};
        for (int each = THROUGH; each <= DOWN; each++) {
            int move = each;
            checks.answers("move 200, " + move, due[move], almost, b -> b.sew(0, move));
            checks.refuses("move 201, " + move, STATE, Benches.FULL, b -> b.sew(0, move));
            for (int last = THROUGH; last <= DOWN; last++) {
                int before = last;
                Checks.Setup all = Benches.then(almost, b -> b.sew(0, before));
                checks.refuses("move 201, " + move + " after " + last, STATE, all, b -> b.sew(0, move));
            }
            checks.answers("after one was taken back, " + move, due[move],
                    Benches.then(almost, b -> {
                        b.sew(0, THROUGH);
                        b.unsew(0, 1);
                    }), b -> b.sew(0, move));
        }
        checks.answers("the thread of another book", 10, Benches.FULL, b -> b.sew(1, ALONG));
    }

    private static void unsew(Edges edges) {
        edges.section("Promise 13");
        edges.test("Takes the latest moves of a thread back.", checks -> {
            Checks.Setup one = Benches.sewn(2, 3, ALONG, UP, THROUGH);
            thread(checks, "one", Benches.then(one, b -> b.unsew(0, 1)), 14, 1, 1, 0, 2);
            thread(checks, "two", Benches.then(one, b -> b.unsew(0, 2)), 10, 0, 1, 0, 1);
            thread(checks, "all", Benches.then(one, b -> b.unsew(0, 3)), 0, 0, 0, 0, 0);
        });
        edges.test("- `book`: its number", checks -> {
            checks.answers("the last one", 0, Benches.then(manyBooks(4), b -> b.sew(3, ALONG)), b -> b.unsew(3, 1));
            Edges.noBook(checks, (b, v) -> b.unsew(v, 1));
        });
        edges.test("- `many`: 1 to 200", checks -> {
            checks.answers("1", 199, Benches.then(throughs(200), b -> b.unsew(0, 1)), b -> b.ofThread(0, 4));
            checks.answers("200", 0, Benches.then(throughs(200), b -> b.unsew(0, 200)), b -> b.ofThread(0, 4));
            Edges.outsideOfUsed(checks, ARGUMENT, 1, 200, (b, v) -> b.unsew(0, v));
            Edges.outsideOfUsed(checks, ARGUMENT, 1, 200, (b, v) -> b.unsew(1, v));
        });
        edges.test("Returns the length then.", checks -> {
            checks.answers("all of 200", 0, Benches.FULL, b -> b.unsew(0, 200));
            checks.answers("all but one", 10, Benches.FULL, b -> b.unsew(0, 199));
            checks.answers("one", 994, Benches.FULL, b -> b.unsew(0, 1));
            checks.answers("two", 984, Benches.FULL, b -> b.unsew(0, 2));
        });
        edges.test("Throws `IndexOutOfBoundsException`", checks -> {
            Edges.always(checks, "book, many also out", PLACE, b -> b.unsew(-1, 0));
            Edges.always(checks, "book, many also out", PLACE, b -> b.unsew(4, 201));
            Edges.always(checks, "book, and not so many", PLACE, b -> b.unsew(4, 200));
        });
        edges.test("Throws `IllegalArgumentException`", checks -> {
            checks.refuses("201 of 200", ARGUMENT, Benches.FULL, b -> b.unsew(0, 201));
            checks.refuses("201 of none", ARGUMENT, Benches.sewn(1, 3), b -> b.unsew(0, 201));
            checks.refuses("0 of none", ARGUMENT, Benches.sewn(1, 3), b -> b.unsew(0, 0));
        });
        edges.test("Throws `IllegalStateException` if there are not so many", checks -> {
            checks.refuses("1 of none", STATE, Benches.sewn(1, 3), b -> b.unsew(0, 1));
            checks.refuses("200 of none", STATE, Benches.sewn(1, 3), b -> b.unsew(0, 200));
            checks.answers("8 of 8", 0, Benches.USED, b -> b.unsew(0, 8));
            checks.refuses("9 of 8", STATE, Benches.USED, b -> b.unsew(0, 9));
            checks.answers("199 of 199", 0, throughs(199), b -> b.unsew(0, 199));
            checks.refuses("200 of 199", STATE, throughs(199), b -> b.unsew(0, 200));
            checks.refuses("1 after all were taken back", STATE, Benches.then(Benches.FULL, b -> b.unsew(0, 200)),
                    b -> b.unsew(0, 1));
            checks.refuses("another book's", STATE, Benches.USED, b -> b.unsew(1, 1));
        });
    }

    private static void ofThread(Edges edges) {
        edges.section("Promise 14");
        edges.test("Tells something of a thread.", checks ->
                thread(checks, "in use", Benches.USED, 44, 1, 2, 1, 8, 0));
        edges.test("- `book`: its number", checks -> {
            checks.answers("the last one", 10, Benches.then(manyBooks(4), b -> b.sew(3, ALONG)), b -> b.ofThread(3, 0));
            Edges.noBook(checks, (b, v) -> b.ofThread(v, 0));
        });
        edges.test("4 how many moves there were that were not taken back, 5 whether the book is sewn", checks -> {
            thread(checks, "of 200 moves", Benches.FULL, 994, 1, 1, 0, 200, 0);
            thread(checks, "sewn", Benches.sewn(1, 3, THROUGH, ALONG, THROUGH), 10, 0, 1, 0, 3, 1);
            thread(checks, "not sewn, inside", Benches.sewn(1, 3, THROUGH, ALONG), 10, 0, 1, 1, 2, 0);
            Checks.Setup fiveLess = Benches.then(Benches.FULL, b -> b.unsew(0, 5));
            thread(checks, "five taken back", fiveLess, 974, 1, 1, 1, 195, 0);
        });
        edges.test("- `what`: 0 its length, 1 its gathering, 2 its station, 3 whether it is inside", checks -> {
            checks.answers("0", 994, Benches.FULL, b -> b.ofThread(0, 0));
            checks.answers("5", 1, Benches.sewn(1, 3, THROUGH, ALONG, THROUGH), b -> b.ofThread(0, 5));
            Edges.outsideOfUsed(checks, ARGUMENT, 0, 5, (b, v) -> b.ofThread(0, v));
            Edges.outsideOfUsed(checks, ARGUMENT, 0, 5, (b, v) -> b.ofThread(1, v));
        });
        edges.test("Returns the number.", checks -> {
            Checks.Setup corner = Benches.sewn(8, 6, joined(times(UP, 7), times(ALONG, 5), of(THROUGH)));
            thread(checks, "at the last gathering and station", corner, 78, 7, 5, 1, 13, 0);
        });
        edges.test("Throws `IndexOutOfBoundsException`", checks -> {
            Edges.always(checks, "book, what also out", PLACE, b -> b.ofThread(-1, -1));
            Edges.always(checks, "book, what also out", PLACE, b -> b.ofThread(4, 6));
        });
        edges.test("Throws `IllegalArgumentException`", checks -> {
            checks.refuses("of a new thread", ARGUMENT, Benches.USED, b -> b.ofThread(1, 6));
            checks.refuses("of the last book", ARGUMENT, Benches.FULL, b -> b.ofThread(3, -1));
        });
    }

    private static void stitches(Edges edges) {
        edges.section("Promise 15");
        edges.test("Returns how many stitches are at a part of a gathering.", checks -> {
            checks.answers("three", 3, Benches.USED, b -> b.stitches(0, 0, 0));
            checks.answers("one", 1, Benches.USED, b -> b.stitches(0, 1, 1));
        });
        edges.test("- `book`: its number", checks -> {
            checks.answers("the last one", 0, manyBooks(4), b -> b.stitches(3, 0, 0));
            Edges.noBook(checks, (b, v) -> b.stitches(v, 0, 0));
        });
        edges.test("- `gathering`: a gathering of it", checks -> {
            for (int many = 1; many <= 8; many++) {
                int last = many - 1;
                int[] there = joined(times(UP, last), of(THROUGH, ALONG));
                Checks.Setup one = Benches.sewn(many, 3, there);
                checks.answers("the first of " + many, many == 1 ? 1 : 0, one, b -> b.stitches(0, 0, 0));
                checks.answers("the last of " + many, 1, one, b -> b.stitches(0, last, 0));
                checks.refuses("one below " + many, PLACE, one, b -> b.stitches(0, -1, 0));
                checks.refuses("one more than " + many, PLACE, one, b -> b.stitches(0, last + 1, 0));
            }
            Edges.outsideOfUsed(checks, PLACE, 0, 2, (b, v) -> b.stitches(0, v, 0));
        });
        edges.test("- `part`: 0 to its stations less 2", checks -> {
            for (int many = 3; many <= 6; many++) {
                int last = many - 2;
                int[] there = joined(times(ALONG, last), of(THROUGH, ALONG));
                Checks.Setup one = Benches.sewn(2, many, there);
                checks.answers("the first of " + many + " stations", 0, one, b -> b.stitches(0, 0, 0));
                checks.answers("the last of " + many + " stations", 1, one, b -> b.stitches(0, 0, last));
                checks.refuses("one below", PLACE, one, b -> b.stitches(0, 0, -1));
                checks.refuses("one below, the second gathering", PLACE, one, b -> b.stitches(0, 1, -1));
                checks.refuses("one more", PLACE, one, b -> b.stitches(0, 0, last + 1));
                checks.refuses("one more, the last gathering", PLACE, one, b -> b.stitches(0, 1, last + 1));
            }
            Edges.outsideOfUsed(checks, PLACE, 0, 2, (b, v) -> b.stitches(0, 0, v));
        });
        edges.test("Returns how many.", checks -> {
            checks.answers("none", 0, Benches.sewn(1, 3), b -> b.stitches(0, 0, 0));
            checks.answers("the most", 199, Benches.then(Benches.sewn(1, 3, THROUGH, ALONG),
                    b -> {
                        for (int i = 0; i < 99; i++) {
                            Benches.sew(b, 0, BACK, ALONG);
                        }
                    }), b -> b.stitches(0, 0, 0));
        });
        edges.test("Throws `IndexOutOfBoundsException`", checks -> {
            Edges.always(checks, "all", PLACE, b -> b.stitches(-1, -1, -1));
            Edges.always(checks, "gathering and part", PLACE, b -> b.stitches(0, 3, 3));
        });
    }

    private static void isHeld(Edges edges) {
        edges.section("Promise 16");
        edges.test("Returns whether a gathering is held.", checks -> {
            checks.answers("held", 0, Benches.USED, b -> Checks.bit(b.isHeld(0, 0)));
            checks.answers("held by the parts 0 and 1", 1, Benches.sewn(1, 4, THROUGH, ALONG, ALONG),
                    b -> Checks.bit(b.isHeld(0, 0)));
        });
        edges.test("- `book`: its number", checks -> {
            checks.answers("the last one", 0, manyBooks(4), b -> Checks.bit(b.isHeld(3, 0)));
            Edges.noBook(checks, (b, v) -> Checks.bit(b.isHeld(v, 0)));
        });
        edges.test("- `gathering`: a gathering of it", checks -> {
            for (int many = 1; many <= 8; many++) {
                int last = many - 1;
                int[] there = joined(times(UP, last), of(THROUGH, ALONG));
                Checks.Setup one = Benches.sewn(many, 3, there);
                checks.answers("the first of " + many, many == 1 ? 1 : 0, one, b -> Checks.bit(b.isHeld(0, 0)));
                checks.answers("the last of " + many, 1, one, b -> Checks.bit(b.isHeld(0, last)));
                checks.refuses("one more than " + many, PLACE, one, b -> Checks.bit(b.isHeld(0, last + 1)));
            }
            Edges.outsideOfUsed(checks, PLACE, 0, 2, (b, v) -> Checks.bit(b.isHeld(0, v)));
        });
        edges.test("Returns whether it is.", checks -> {
            checks.answers("it is not", 0, Benches.sewn(1, 3, THROUGH), b -> Checks.bit(b.isHeld(0, 0)));
            checks.answers("it is", 1, Benches.sewn(1, 3, THROUGH, ALONG), b -> Checks.bit(b.isHeld(0, 0)));
            Checks.Setup takenBack = Benches.then(Benches.sewn(1, 3, THROUGH, ALONG), b -> b.unsew(0, 1));
            checks.answers("not after the stitch is taken back", 0, takenBack, b -> Checks.bit(b.isHeld(0, 0)));
        });
        edges.test("Throws `IndexOutOfBoundsException`", checks -> {
            Edges.always(checks, "both", PLACE, b -> Checks.bit(b.isHeld(-1, -1)));
            Edges.always(checks, "both", PLACE, b -> Checks.bit(b.isHeld(4, 8)));
        });
    }
}
