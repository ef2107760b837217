import java.util.ArrayList;
import java.util.List;

/**
 * What can be seen of a bench, in parts that stay far below 512 calls each. Some can only be seen
 * by calls that change the bench, so that each view wants a bench of its own.
 */
final class Views {
    interface View {
        String of(MarbleBench bench);
    }

    private interface Question {
        Object answer();
    }

    static final List<View> ALL = all();

    private Views() {
    }

    private static List<View> all() {
        List<View> views = new ArrayList<>();
        views.add(Views::bath);
        views.add(Views::limits);
        for (int print = 0; print < 10; print++) {
            int number = print;
            views.add(bench -> print(bench, number));
        }
        for (int book = 0; book < 4; book++) {
            int number = book;
            views.add(bench -> sewing(bench, number));
            views.add(bench -> openings(bench, number));
            views.add(bench -> moves(bench, number));
            views.add(bench -> repairs(bench, number));
        }
        for (int skin = 0; skin < 3; skin++) {
            int number = skin;
            views.add(bench -> skin(bench, number));
        }
        return views;
    }

    private static void tell(StringBuilder text, String name, Question question) {
        Object answer;
        try {
            answer = question.answer();
        } catch (RuntimeException e) {
            answer = e.getClass().getSimpleName();
        }
        text.append(name).append(' ').append(answer).append("; ");
    }

    private static String bath(MarbleBench bench) {
        StringBuilder text = new StringBuilder("bath: ");
        for (int cell = 0; cell < 64; cell++) {
            int x = cell % 8;
            int y = cell / 8;
            tell(text, "colour", () -> bench.cellAt(x, y, 0));
            tell(text, "strength", () -> bench.cellAt(x, y, 1));
        }
        return text.toString();
    }

    private static String limits(MarbleBench bench) {
        StringBuilder text = new StringBuilder("limits: ");
        tell(text, "lift", () -> bench.lift());
        tell(text, "book", () -> bench.book(1, 2, 3, 1, false));
        tell(text, "skin", () -> bench.skin(8));
        for (int book = 0; book < 4; book++) {
            int number = book;
            tell(text, "back", () -> bench.back(number, MarbleBench.TIGHT));
            tell(text, "first", () -> bench.year(number, false));
            tell(text, "last", () -> bench.year(number, true));
            tell(text, "speak", () -> bench.speak(number, 1400, 1400, 1));
        }
        return text.toString();
    }

    private static String print(MarbleBench bench, int print) {
        StringBuilder text = new StringBuilder("print: ");
        for (int cell = 0; cell < 64; cell++) {
            int x = cell % 8;
            int y = cell / 8;
            tell(text, "colour", () -> bench.printAt(print, x, y));
        }
        return text.toString();
    }

    private static String sewing(MarbleBench bench, int book) {
        StringBuilder text = new StringBuilder("sewing: ");
        for (int what = 0; what < 6; what++) {
            int asked = what;
            tell(text, "thread", () -> bench.ofThread(book, asked));
        }
        for (int at = 0; at < 8; at++) {
            int gathering = at;
            tell(text, "held", () -> bench.isHeld(book, gathering));
            for (int p = 0; p < 5; p++) {
                int part = p;
                tell(text, "stitches", () -> bench.stitches(book, gathering, part));
            }
        }
        return text.toString();
    }

    private static String openings(MarbleBench bench, int book) {
        StringBuilder text = new StringBuilder("openings: ");
        for (int at = 0; at <= 128; at++) {
            int opening = at;
            tell(text, "strain", () -> bench.strain(book, opening));
        }
        return text.toString();
    }

    private static String moves(MarbleBench bench, int book) {
        StringBuilder text = new StringBuilder("moves: ");
        for (int i = 0; i <= 200; i++) {
            tell(text, "unsew", () -> bench.unsew(book, 1));
        }
        return text.toString();
    }

    private static String repairs(MarbleBench bench, int book) {
        StringBuilder text = new StringBuilder("repairs: ");
        tell(text, "repair", () -> bench.repair(book, 0));
        for (int i = 0; i <= 20; i++) {
            tell(text, "undo", () -> bench.undo(book));
        }
        return text.toString();
    }

    private static String skin(MarbleBench bench, int skin) {
        StringBuilder text = new StringBuilder("skin: ");
        for (int place = 0; place < 64; place++) {
            int column = place % 8;
            int row = place / 8;
            tell(text, "thick", () -> bench.thickAt(skin, column, row));
        }
        return text.toString();
    }
}
