import java.util.function.IntSupplier;

/** Long runs of calls, made by a fixed rule, that are put to the class and to the model alike. */
final class ModelTest {
    private static final int CALLS = 512;
    private static final int RUNS = 1500;

    private final Checks checks;
    private MarbleBench bench;
    private Model model;
    private long seed;
    private String run;

    private ModelTest(Checks checks) {
        this.checks = checks;
    }

    static void run(Checks checks) {
        ModelTest test = new ModelTest(checks);
        for (int number = 0; number < RUNS; number++) {
            test.oneRun(number);
        }
    }

    /** Each run has a theme, so that threads, prints and years come to their limits in some of them. */
    private void oneRun(int number) {
        bench = new MarbleBench();
        model = new Model();
        seed = 7919L * number + 1;
        int theme = number % 6;
        for (int call = 0; call < CALLS; call++) {
            run = "run " + number + ", call " + call + ": ";
            int of = theme == 5 || below(12) == 0 ? below(5) : theme;
            switch (of) {
                case 0: bathCall(); break;
                case 1: sheetOrBookCall(); break;
                case 2: threadCall(); break;
                case 3: spineOrSkinCall(); break;
                default: yearCall();
            }
        }
    }

    private int below(int bound) {
        seed = seed * 6364136223846793005L + 1442695040888963407L;
        return (int) ((seed >>> 33) % bound);
    }

    /** A number of the range; seldom one just outside of it, or one that is far off. */
    private int some(int least, int greatest) {
        switch (below(60)) {
            case 0: return least - 1;
            case 1: return greatest + 1;
            case 2: return below(2) == 0 ? Integer.MIN_VALUE : Integer.MAX_VALUE;
            case 3: case 4: return least;
            case 5: case 6: return greatest;
            default: return least + below(greatest - least + 1);
        }
    }

    private boolean either() {
        return below(2) == 0;
    }

    private static String answer(IntSupplier call) {
        try {
            return String.valueOf(call.getAsInt());
        } catch (RuntimeException e) {
            return e.getClass().getName();
        }
    }

    private void both(String what, IntSupplier onBench, IntSupplier onModel) {
        String due = answer(onModel);
        String got = answer(onBench);
        checks.isTrue(run + what + " answered " + got + ", due is " + due + ": that they are alike", got.equals(due));
    }

    private void bathCall() {
        int x = some(0, 7);
        int y = some(0, 7);
        int a = some(0, 5);
        int many = some(1, either() ? 64 : 9);
        int by = some(-7, 7);
        int what = some(0, 1);
        int print = some(0, either() ? 9 : 2);
        int counted = some(-1, 5);
        boolean is = either();
        switch (below(12)) {
            case 0: case 1: case 2:
                both("drop", () -> bench.drop(x, y, a, many), () -> model.drop(x, y, a, many));
                break;
            case 3: case 4:
                both("comb", () -> bench.comb(is, x, by), () -> model.comb(is, x, by));
                break;
            case 5:
                if (below(6) == 0) {
                    both("lift", () -> bench.lift(), () -> model.lift());
                }
                break;
            case 6:
                if (below(6) == 0) {
                    both("clean", () -> bench.clean(), () -> model.clean());
                }
                break;
            case 7: case 8: case 9:
                both("cellAt", () -> bench.cellAt(x, y, what), () -> model.cellAt(x, y, what));
                break;
            case 10:
                both("printAt", () -> bench.printAt(print, x, y), () -> model.printAt(print, x, y));
                break;
            default:
                both("count", () -> bench.count(print, counted), () -> model.count(print, counted));
        }
    }

    private void sheetOrBookCall() {
        int folds = some(1, 4);
        int column = some(0, 3);
        int row = some(0, 3);
        int page = some(1, folds > 0 && folds < 5 ? 2 << folds : 32);
        boolean is = either();
        switch (below(3)) {
            case 0:
                both("pageAt", () -> bench.pageAt(folds, is, column, row), () -> model.pageAt(folds, is, column, row));
                break;
            case 1:
                both("placeOf", () -> bench.placeOf(folds, page), () -> model.placeOf(folds, page));
                break;
            default:
                bookCall();
        }
    }

    private void bookCall() {
        int gatherings = some(1, either() ? 8 : 2);
        int leaves = some(2, 16);
        int stations = some(3, 6);
        int thickness = some(1, 9);
        boolean isOld = either();
        both("book", () -> bench.book(gatherings, leaves, stations, thickness, isOld),
                () -> model.book(gatherings, leaves, stations, thickness, isOld));
    }

    /** A book of a run is most often the first one, so that its thread becomes long. */
    private int someBook() {
        return either() ? 0 : some(0, 3);
    }

    private void threadCall() {
        int book = someBook();
        int move = some(0, 4);
        int many = below(8) == 0 ? some(1, 200) : some(1, 5);
        int what = some(0, 5);
        int gathering = some(0, 7);
        int part = some(0, 4);
        switch (below(16)) {
            case 0:
                bookCall();
                break;
            case 1:
                both("unsew", () -> bench.unsew(book, many), () -> model.unsew(book, many));
                break;
            case 2: case 3:
                both("ofThread", () -> bench.ofThread(book, what), () -> model.ofThread(book, what));
                break;
            case 4:
                both("stitches", () -> bench.stitches(book, gathering, part),
                        () -> model.stitches(book, gathering, part));
                break;
            case 5:
                both("isHeld", () -> bench.isHeld(book, gathering) ? 1 : 0, () -> model.isHeld(book, gathering));
                break;
            case 6:
                both("swelling", () -> bench.swelling(book), () -> model.swelling(book));
                break;
            default:
                both("sew", () -> bench.sew(book, move), () -> model.sew(book, move));
        }
    }

    private void spineOrSkinCall() {
        int book = someBook();
        int back = some(0, 2);
        int opening = some(0, either() ? 128 : 8);
        int bound = either() ? some(0, 100000) : some(0, 500);
        switch (below(10)) {
            case 0:
                bookCall();
                break;
            case 1:
                both("back", () -> bench.back(book, back), () -> model.back(book, back));
                break;
            case 2:
                both("strain", () -> bench.strain(book, opening), () -> model.strain(book, opening));
                break;
            case 3:
                both("worst", () -> bench.worst(book), () -> model.worst(book));
                break;
            case 4:
                both("opens", () -> bench.opens(book, bound), () -> model.opens(book, bound));
                break;
            case 5:
                threadCall();
                break;
            default:
                skinCall();
        }
    }

    private void skinCall() {
        int skin = some(0, 2);
        int thickness = some(8, 30);
        int left = some(0, 7);
        int top = some(0, 7);
        int right = either() ? left : some(0, 7);
        int low = either() ? top : some(0, 7);
        int by = below(4) == 0 ? some(1, 27) : some(1, 4);
        switch (below(5)) {
            case 0:
                both("skin", () -> bench.skin(thickness), () -> model.skin(thickness));
                break;
            case 1:
                both("thickAt", () -> bench.thickAt(skin, left, top), () -> model.thickAt(skin, left, top));
                break;
            case 2:
                both("tooThick", () -> bench.tooThick(skin), () -> model.tooThick(skin));
                break;
            default:
                both("pare", () -> bench.pare(skin, left, right, top, low, by),
                        () -> model.pare(skin, left, right, top, low, by));
        }
    }

    private void yearCall() {
        int book = someBook();
        int stuff = some(0, 4);
        int from = either() ? some(1400, 2000) : some(1500, 1520);
        int to = either() ? from + below(12) : some(1500, 2000);
        int weight = some(1, either() ? 9 : 3);
        boolean isLast = either();
        switch (below(10)) {
            case 0:
                bookCall();
                break;
            case 1: case 2:
                both("repair", () -> bench.repair(book, stuff), () -> model.repair(book, stuff));
                break;
            case 3:
                both("undo", () -> bench.undo(book), () -> model.undo(book));
                break;
            case 4:
                both("speak", () -> bench.speak(book, from, to, weight), () -> model.speak(book, from, to, weight));
                break;
            case 5: case 6: case 7:
                both("year", () -> bench.year(book, isLast), () -> model.year(book, isLast));
                break;
            default:
                both("yearAnew", () -> bench.yearAnew(book, isLast), () -> model.year(book, isLast));
        }
    }
}
