import java.util.ArrayList;
import java.util.List;
import java.util.regex.Matcher;
import java.util.regex.Pattern;

/** What the document tells of all calls: what is there at first, questions, exceptions, constants, 512 calls. */
final class RuleEdges {
    private static final Class<?> PLACE = Checks.PLACE, ARGUMENT = Checks.ARGUMENT, STATE = Checks.STATE;
    private static final int THROUGH = MarbleBench.THROUGH, UP = MarbleBench.UP;

    /** A call that is refused, and by what. */
    private static final class Refused {
        private final String name;
        private final Class<?> due;
        private final Checks.Ask call;

        Refused(String name, Class<?> due, Checks.Ask call) {
            this.name = name;
            this.due = due;
            this.call = call;
        }
    }

    /** All that a full bench refuses: each method by each of its exceptions, the later ones where they apply alone. */
    private static final List<Refused> BY_FULL = new ArrayList<>();

    /** Calls to which several exceptions apply. */
    private static final List<Refused> BY_SEVERAL = new ArrayList<>();

    private RuleEdges() {
    }

    private static void full(String name, Class<?> due, Checks.Ask call) {
        BY_FULL.add(new Refused(name, due, call));
    }

    private static void several(String name, Class<?> due, Checks.Ask call) {
        BY_SEVERAL.add(new Refused(name, due, call));
    }

    static {
        full("drop", PLACE, b -> b.drop(8, 0, 0, 1));
        full("drop", ARGUMENT, b -> b.drop(0, 0, 6, 1));
        full("comb", PLACE, b -> b.comb(true, 8, 1));
        full("comb", ARGUMENT, b -> b.comb(false, 0, 8));
        full("lift", STATE, b -> b.lift());
        full("cellAt", PLACE, b -> b.cellAt(0, 8, 0));
        full("cellAt", ARGUMENT, b -> b.cellAt(0, 0, 2));
        full("printAt", PLACE, b -> b.printAt(10, 0, 0));
        full("count", PLACE, b -> b.count(10, 0));
        full("count", ARGUMENT, b -> b.count(0, 6));
        full("pageAt", ARGUMENT, b -> b.pageAt(5, true, 0, 0));
        full("placeOf", ARGUMENT, b -> b.placeOf(1, 5));
        full("book", ARGUMENT, b -> b.book(9, 2, 3, 1, true));
        full("book", STATE, b -> b.book(8, 2, 3, 1, true));
        full("sew", PLACE, b -> b.sew(4, THROUGH));
        full("sew", ARGUMENT, b -> b.sew(0, 5));
        full("sew", STATE, b -> b.sew(0, UP));
        full("unsew", PLACE, b -> b.unsew(4, 1));
        full("unsew", ARGUMENT, b -> b.unsew(0, 201));
        full("unsew", STATE, b -> b.unsew(1, 1));
        full("ofThread", PLACE, b -> b.ofThread(4, 0));
        full("ofThread", ARGUMENT, b -> b.ofThread(0, 6));
        full("stitches", PLACE, b -> b.stitches(0, 3, 0));
        full("isHeld", PLACE, b -> Checks.bit(b.isHeld(0, 3)));
        full("back", PLACE, b -> b.back(4, 2));
        full("back", ARGUMENT, b -> b.back(0, 3));
        full("swelling", PLACE, b -> b.swelling(4));
        full("strain", PLACE, b -> b.strain(4, 0));
        full("strain", ARGUMENT, b -> b.strain(0, 16));
        full("worst", PLACE, b -> b.worst(4));
        full("opens", PLACE, b -> b.opens(4, 0));
        full("opens", ARGUMENT, b -> b.opens(0, 100001));
        full("skin", ARGUMENT, b -> b.skin(31));
        full("skin", STATE, b -> b.skin(30));
        full("pare", PLACE, b -> b.pare(0, 0, 8, 0, 0, 1));
        full("pare", ARGUMENT, b -> b.pare(1, 0, 0, 0, 0, 28));
        full("pare", STATE, b -> b.pare(0, 0, 7, 0, 7, 6));
        full("thickAt", PLACE, b -> b.thickAt(2, 8, 0));
        full("tooThick", PLACE, b -> b.tooThick(3));
        full("repair", PLACE, b -> b.repair(4, 0));
        full("repair", ARGUMENT, b -> b.repair(0, 5));
        full("repair", STATE, b -> b.repair(0, 0));
        full("undo", PLACE, b -> b.undo(4));
        full("undo", STATE, b -> b.undo(2));
        full("speak", PLACE, b -> b.speak(4, 1500, 1600, 1));
        full("speak", ARGUMENT, b -> b.speak(0, 1500, 1600, 10));
        full("speak", STATE, b -> b.speak(0, 1500, 1600, 9));
        full("year", PLACE, b -> b.year(4, true));
        full("yearAnew", PLACE, b -> b.yearAnew(4, false));

        several("drop, cell and colour", PLACE, b -> b.drop(-1, 0, 6, 1));
        several("drop, cell and many", PLACE, b -> b.drop(0, -1, 5, 65));
        several("comb, line and by", PLACE, b -> b.comb(true, -1, 8));
        several("cellAt, cell and what", PLACE, b -> b.cellAt(0, -1, 2));
        several("count, print and colour", PLACE, b -> b.count(10, 6));
        several("book, gatherings and 4 books", ARGUMENT, b -> b.book(0, 2, 3, 1, true));
        several("book, leaves and 4 books", ARGUMENT, b -> b.book(1, 17, 3, 1, true));
        several("book, stations and 4 books", ARGUMENT, b -> b.book(1, 2, 7, 1, true));
        several("book, thickness and 4 books", ARGUMENT, b -> b.book(1, 2, 3, 0, true));
        several("sew, book and move", PLACE, b -> b.sew(4, 5));
        several("sew, move and 200 moves", ARGUMENT, b -> b.sew(0, -1));
        several("unsew, book and many", PLACE, b -> b.unsew(-1, 0));
        several("unsew, many and not so many", ARGUMENT, b -> b.unsew(1, 201));
        several("ofThread, book and what", PLACE, b -> b.ofThread(4, 6));
        several("back, book and back", PLACE, b -> b.back(4, 3));
        several("strain, book and opening", PLACE, b -> b.strain(4, 999));
        several("opens, book and bound", PLACE, b -> b.opens(4, -1));
        several("skin, thickness and 3 skins", ARGUMENT, b -> b.skin(7));
        several("pare, skin and by", PLACE, b -> b.pare(3, 0, 0, 0, 0, 28));
        several("pare, right below left and by", PLACE, b -> b.pare(0, 1, 0, 0, 0, 0));
        several("pare, low below top and below 3", PLACE, b -> b.pare(0, 0, 0, 1, 0, 27));
        several("pare, by and below 3", ARGUMENT, b -> b.pare(0, 0, 0, 0, 0, 28));
        several("repair, book and stuff", PLACE, b -> b.repair(4, 5));
        several("repair, stuff and 20 repairs", ARGUMENT, b -> b.repair(0, 5));
        several("repair, stuff and an old book with 20", ARGUMENT, b -> b.repair(1, -1));
        several("speak, book and from", PLACE, b -> b.speak(4, 1399, 2001, 0));
        several("speak, from and 20 that speak", ARGUMENT, b -> b.speak(0, 1399, 1600, 1));
        several("speak, to and 20 that speak", ARGUMENT, b -> b.speak(0, 1500, 1499, 1));
        several("speak, weight and 20 that speak", ARGUMENT, b -> b.speak(0, 1500, 1600, 10));
    }

    static void run(Edges edges, String source) {
        newBench(edges);
        questions(edges);
        numbers(edges);
        exceptions(edges);
        constants(edges);
        headings(edges, source);
        calls(edges);
    }

    private static void newBench(Edges edges) {
        edges.section("Promise 1");
        edges.test("`MarbleBench()`: A bench with a clean bath, without prints, books and skins.", checks -> {
            checks.answers("nothing to clean", 0, Benches.EMPTY, b -> b.clean());
            for (int each = 0; each < 64; each++) {
                int cell = each;
                checks.answers("colour", MarbleBench.NONE, Benches.EMPTY, b -> b.cellAt(cell % 8, cell / 8, 0));
                checks.answers("strength", 0, Benches.EMPTY, b -> b.cellAt(cell % 8, cell / 8, 1));
            }
            for (Refused one : BY_FULL) {
                boolean wantsNumber = !List.of("drop", "comb", "lift", "cellAt", "pageAt", "placeOf", "book", "skin")
                        .contains(one.name);
                if (wantsNumber) {
                    checks.refuses(one.name, PLACE, Benches.EMPTY, one.call);
                }
            }
            for (int each = 0; each < 10; each++) {
                int number = each;
                checks.refuses("print " + number, PLACE, Benches.EMPTY, b -> b.printAt(number, 0, 0));
                checks.refuses("book " + number, PLACE, Benches.EMPTY, b -> b.worst(number));
                checks.refuses("skin " + number, PLACE, Benches.EMPTY, b -> b.tooThick(number));
            }
            checks.answers("the first print", 0, Benches.EMPTY, b -> b.lift());
            checks.answers("the first book", 0, Benches.EMPTY, b -> b.book(1, 2, 3, 1, true));
            checks.answers("the first skin", 0, Benches.EMPTY, b -> b.skin(8));
            checks.alike("another bench in between", Benches.USED, b -> {
                Checks.made(Benches.FULL);
                Benches.USED.on(b);
            });
        });
    }

    private static void questions(Edges edges) {
        edges.section("Terms");
        edges.noTest("Every leaf is held.", "no call asks for it: it tells of the craft");
        edges.test("Questions change nothing.", checks -> {
            for (Checks.Setup setup : List.of(Benches.EMPTY, Benches.USED, Benches.FULL)) {
                for (int times = 1; times <= 2; times++) {
                    int many = times;
                    checks.unchanged("all questions", setup, bench -> {
                        for (int i = 0; i < many; i++) {
                            askAll(bench);
                        }
                    });
                }
            }
        });
    }

    /** Each question at least once; what the bench lacks is asked for, too. */
    private static void askAll(MarbleBench bench) {
        List<Checks.Ask> questions = List.of(
                b -> b.cellAt(4, 4, 0) + b.cellAt(4, 4, 1),
                b -> b.printAt(0, 3, 3) + b.count(0, 2),
                b -> b.pageAt(4, true, 3, 3) + b.placeOf(4, 32),
                b -> b.ofThread(0, 0) + b.ofThread(0, 5) + b.stitches(0, 0, 0) + Checks.bit(b.isHeld(0, 0)),
                b -> b.swelling(0) + b.strain(0, 3) + b.worst(0) + b.opens(0, 50),
                b -> b.thickAt(0, 0, 0) + b.tooThick(0),
                b -> b.year(0, false) + b.year(0, true) + b.yearAnew(0, false) + b.yearAnew(0, true));
        for (Checks.Ask question : questions) {
            Checks.answerOf(bench, question);
        }
    }

    private static void numbers(Edges edges) {
        edges.section("Terms");
        edges.test("where something is divided, it is rounded down", checks -> {
            checks.answers("half of 3 stations", 1, Benches.sewn(1, 3, 0, 1), b -> Checks.bit(b.isHeld(0, 0)));
            checks.answers("half of 5 stations", 1, Benches.sewn(1, 5, 0, 1, 1), b -> Checks.bit(b.isHeld(0, 0)));
            checks.answers("less than half of 5", 0, Benches.sewn(1, 5, 0, 1), b -> Checks.bit(b.isHeld(0, 0)));
            checks.answers("half of 4 stations", 1, Benches.sewn(1, 4, 0, 1, 1), b -> Checks.bit(b.isHeld(0, 0)));
            checks.answers("less than half of 4", 0, Benches.sewn(1, 4, 0, 1), b -> Checks.bit(b.isHeld(0, 0)));
            checks.answers("half of 6 stations", 1, Benches.sewn(1, 6, 0, 1, 1, 1), b -> Checks.bit(b.isHeld(0, 0)));
            checks.answers("less than half of 6", 0, Benches.sewn(1, 6, 0, 1, 1), b -> Checks.bit(b.isHeld(0, 0)));
        });
    }

    private static void exceptions(Edges edges) {
        edges.section("Terms");
        edges.test("IndexOutOfBoundsException: there is no such cell, print, book, gathering, skin or place.",
                checks -> refused(checks, PLACE));
        edges.test("IllegalArgumentException: another argument is out of its range.",
                checks -> refused(checks, ARGUMENT));
        edges.test("IllegalStateException: as the method tells.", checks -> refused(checks, STATE));
        edges.test("If several apply, the one that is named first in the throws clause is thrown.", checks -> {
            for (Refused one : BY_SEVERAL) {
                checks.refuses(one.name, one.due, Benches.FULL, one.call);
            }
        });
        edges.test("A call that throws an exception changes nothing.", checks -> {
            for (Checks.Setup setup : List.of(Benches.EMPTY, Benches.USED, Benches.FULL)) {
                checks.unchanged("all that a bench refuses, one after another", setup, bench -> {
                    for (Refused one : BY_SEVERAL) {
                        Checks.answerOf(bench, one.call);
                    }
                });
            }
            checks.unchanged("all that a full bench refuses, one after another", Benches.FULL, bench -> {
                for (Refused one : BY_FULL) {
                    Checks.answerOf(bench, one.call);
                }
            });
        });
    }

    private static void refused(Checks checks, Class<?> due) {
        for (Refused one : BY_FULL) {
            if (one.due == due) {
                checks.refuses(one.name, due, Benches.FULL, one.call);
            }
        }
    }

    private static void constants(Edges edges) {
        edges.section("Terms");
        edges.test("The constants: `NONE = -1`: There is none.", checks -> checks.due("NONE", -1, MarbleBench.NONE));
        edges.test("`THROUGH = 0, ALONG = 1, BACK = 2, UP = 3, DOWN = 4`: Moves of threads.", checks -> {
            checks.due("THROUGH", 0, MarbleBench.THROUGH);
            checks.due("ALONG", 1, MarbleBench.ALONG);
            checks.due("BACK", 2, MarbleBench.BACK);
            checks.due("UP", 3, MarbleBench.UP);
            checks.due("DOWN", 4, MarbleBench.DOWN);
        });
        edges.test("`TIGHT = 0, HOLLOW = 1, FLEX = 2`: Backs of books.", checks -> {
            checks.due("TIGHT", 0, MarbleBench.TIGHT);
            checks.due("HOLLOW", 1, MarbleBench.HOLLOW);
            checks.due("FLEX", 2, MarbleBench.FLEX);
        });
    }

    private static void headings(Edges edges, String source) {
        edges.section("Terms");
        heading(edges, source, "bath, prints", "drop comb lift clean cellAt printAt count");
        heading(edges, source, "sheets", "pageAt placeOf");
        heading(edges, source, "books, threads", "book sew unsew ofThread stitches isHeld");
        heading(edges, source, "spines, openings", "back swelling strain worst opens");
        heading(edges, source, "skins", "skin pare thickAt tooThick");
        heading(edges, source, "repairs, years", "repair undo speak year yearAnew");
    }

    /** The class bears the heading as a comment, and these calls alone, in this order, stand behind it. */
    private static void heading(Edges edges, String source, String ahead, String calls) {
        edges.test("the interface says: ---- " + ahead + ".", checks -> {
            String[] parts = source.split("// ---- " + ahead + "\\R");
            checks.due("places with this heading", 2, parts.length);
            String part = parts[parts.length - 1].split("// ---- ")[0];
            Matcher declared = Pattern.compile("public \\w+ (\\w+)\\(").matcher(part);
            StringBuilder found = new StringBuilder();
            while (declared.find()) {
                found.append(found.length() == 0 ? "" : " ").append(declared.group(1));
            }
            checks.isTrue("that " + calls + " stand behind it, not " + found, found.toString().equals(calls));
        });
    }

    private static void calls(Edges edges) {
        edges.section("What it is");
        edges.noTest("Paper decorated and books bound by hand", "each part of it is told in the Terms");
        edges.test("An object is used for at most 512 calls after it has been made", checks -> {
            Checks.Setup all = bench -> {
                Benches.FULL.on(bench);
                for (int calls = Benches.CALLS_OF_FULL; calls < Benches.MOST_CALLS - 1; calls++) {
                    bench.comb(calls % 2 == 0, calls % 8, calls % 15 - 7);
                }
            };
            for (Refused one : BY_FULL) {
                checks.due("the last call, " + one.name, 1,
                        Checks.bit(Checks.answerOf(Checks.made(all), one.call).equals(one.due.getName())));
            }
            checks.answers("the last call, unsew", 0, all, b -> b.unsew(0, 200));
            checks.answers("the last call, swelling", 3 * 98, all, b -> b.swelling(0));
            checks.answers("the last call, count", 64, all, b -> b.count(9, MarbleBench.NONE));
            checks.answers("the last call, thickAt", 9, all, b -> b.thickAt(2, 4, 7));
            checks.answers("the last call, clean", 10, all, b -> b.clean());
        });
        edges.section("Not promised");
        for (String free : List.of("How the state is held", "Use of one object from several threads",
                "Nothing is promised beyond")) {
            edges.noTest(free, "it is not promised");
        }
    }
}
