import java.util.ArrayList;
import java.util.List;

/**
 * All that can be asked of a bench, and what calls that change it answer, in parts of at most 170 calls each.
 * As some of them change the bench, each view wants a bench of its own.
 */
final class Views {
    interface View {
        String of(MarbleBench bench);
    }

    private interface Question {
        Object answer();
    }

    static final List<View> ALL = all();

    private Views() {
    }

    private static List<View> all() {
        List<View> views = new ArrayList<>();
        views.add(Views::bath);
        views.add(Views::sheets);
        views.add(Views::limits);
        for (int print = 0; print < 10; print++) {
            int number = print;
            views.add(bench -> print(bench, number));
        }
        for (int book = 0; book < 4; book++) {
            int number = book;
            views.add(bench -> thread(bench, number));
            views.add(bench -> openings(bench, number));
            views.add(bench -> moves(bench, number, 0));
            views.add(bench -> moves(bench, number, 100));
            views.add(bench -> repairs(bench, number));
            views.add(bench -> years(bench, number));
        }
        for (int skin = 0; skin < 3; skin++) {
            int number = skin;
            views.add(bench -> skin(bench, number));
        }
        return views;
    }

    private static String answer(Question question) {
        try {
            return String.valueOf(question.answer());
        } catch (RuntimeException e) {
            return e.getClass().getSimpleName();
        }
    }

    private static void tell(StringBuilder text, String name, Question question) {
        text.append(name).append(' ').append(answer(question)).append("; ");
    }

    /** What is not there is asked for once: all further questions would only throw again. */
    private static boolean isThere(StringBuilder text, Question question) {
        String told = answer(question);
        text.append("first ").append(told).append("; ");
        return !told.endsWith("Exception");
    }

    private static String bath(MarbleBench bench) {
        StringBuilder text = new StringBuilder("bath: ");
        for (int cell = 0; cell < 64; cell++) {
            int x = cell % 8;
            int y = cell / 8;
            tell(text, "colour", () -> bench.cellAt(x, y, 0));
            tell(text, "strength", () -> bench.cellAt(x, y, 1));
        }
        tell(text, "clean", () -> bench.clean());
        return text.toString();
    }

    private static String sheets(MarbleBench bench) {
        StringBuilder text = new StringBuilder("sheets: ");
        for (int at = 1; at <= 4; at++) {
            int folds = at;
            for (int place = 0; place < 8 << folds / 2; place++) {
                int column = place / 2 % 4;
                int row = place / 8;
                boolean isBack = place % 2 == 1;
                tell(text, "page", () -> bench.pageAt(folds, isBack, column, row));
            }
            for (int page = 1; page <= 2 << folds; page++) {
                int asked = page;
                tell(text, "place", () -> bench.placeOf(folds, asked));
            }
        }
        return text.toString();
    }

    private static String limits(MarbleBench bench) {
        StringBuilder text = new StringBuilder("limits: ");
        for (int i = 0; i <= 10; i++) {
            tell(text, "lift", () -> bench.lift());
        }
        for (int i = 0; i <= 4; i++) {
            tell(text, "book", () -> bench.book(1, 2, 3, 1, false));
        }
        for (int i = 0; i <= 3; i++) {
            tell(text, "skin", () -> bench.skin(8));
        }
        return text.toString();
    }

    private static String print(MarbleBench bench, int print) {
        StringBuilder text = new StringBuilder("print " + print + ": ");
        if (isThere(text, () -> bench.printAt(print, 0, 0))) {
            for (int cell = 1; cell < 64; cell++) {
                int x = cell % 8;
                int y = cell / 8;
                tell(text, "colour", () -> bench.printAt(print, x, y));
            }
        }
        for (int colour = -1; colour <= 5; colour++) {
            int counted = colour;
            tell(text, "count", () -> bench.count(print, counted));
        }
        return text.toString();
    }

    private static String thread(MarbleBench bench, int book) {
        StringBuilder text = new StringBuilder("thread " + book + ": ");
        for (int what = 0; what < 6; what++) {
            int asked = what;
            tell(text, "thread", () -> bench.ofThread(book, asked));
        }
        for (int at = 0; at < 8; at++) {
            int gathering = at;
            tell(text, "held", () -> bench.isHeld(book, gathering));
            if (isThere(text, () -> bench.stitches(book, gathering, 0))) {
                for (int p = 1; p < 5; p++) {
                    int part = p;
                    tell(text, "stitches", () -> bench.stitches(book, gathering, part));
                }
            }
        }
        return text.toString();
    }

    private static String openings(MarbleBench bench, int book) {
        StringBuilder text = new StringBuilder("openings " + book + ": ");
        tell(text, "swelling", () -> bench.swelling(book));
        tell(text, "worst", () -> bench.worst(book));
        if (isThere(text, () -> bench.strain(book, 0))) {
            for (int at = 1; at <= 128; at++) {
                int opening = at;
                tell(text, "strain", () -> bench.strain(book, opening));
            }
        }
        for (int bound = 0; bound <= 100000; bound += bound < 1000 ? 50 : 11000) {
            int asked = bound;
            tell(text, "opens", () -> bench.opens(book, asked));
        }
        tell(text, "back", () -> bench.back(book, MarbleBench.TIGHT));
        return text.toString();
    }

    /** At most 100 of the moves, from the latest one that was not among the skipped ones. */
    private static String moves(MarbleBench bench, int book, int skipped) {
        StringBuilder text = new StringBuilder("moves " + book + " behind " + skipped + ": ");
        boolean isLeft = skipped == 0 || isThere(text, () -> bench.unsew(book, skipped));
        for (int i = 0; i <= 100 && isLeft; i++) {
            isLeft = isThere(text, () -> bench.unsew(book, 1));
        }
        for (int what = 0; what < 5; what++) {
            int asked = what;
            tell(text, "thread", () -> bench.ofThread(book, asked));
        }
        tell(text, "sew", () -> bench.sew(book, MarbleBench.ALONG));
        return text.toString();
    }

    private static String repairs(MarbleBench bench, int book) {
        StringBuilder text = new StringBuilder("repairs " + book + ": ");
        tell(text, "repair", () -> bench.repair(book, 0));
        boolean isLeft = true;
        for (int i = 0; i <= 20 && isLeft; i++) {
            isLeft = isThere(text, () -> bench.undo(book));
        }
        tell(text, "repair by 3", () -> bench.repair(book, 3));
        return text.toString();
    }

    private static String years(MarbleBench bench, int book) {
        StringBuilder text = new StringBuilder("years " + book + ": ");
        tellYears(text, bench, book);
        boolean isLeft = true;
        for (int i = 0; i <= 20 && isLeft; i++) {
            int from = 1400 + 30 * i;
            isLeft = isThere(text, () -> bench.speak(book, from, 2000, 1));
            tellYears(text, bench, book);
        }
        return text.toString();
    }

    private static void tellYears(StringBuilder text, MarbleBench bench, int book) {
        for (boolean isLast : new boolean[] {false, true}) {
            tell(text, "year", () -> bench.year(book, isLast));
            tell(text, "anew", () -> bench.yearAnew(book, isLast));
        }
    }

    private static String skin(MarbleBench bench, int skin) {
        StringBuilder text = new StringBuilder("skin " + skin + ": ");
        tell(text, "too thick", () -> bench.tooThick(skin));
        if (isThere(text, () -> bench.thickAt(skin, 0, 0))) {
            for (int place = 1; place < 64; place++) {
                int column = place % 8;
                int row = place / 8;
                tell(text, "thick", () -> bench.thickAt(skin, column, row));
            }
        }
        return text.toString();
    }
}
