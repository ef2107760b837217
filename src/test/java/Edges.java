/** Runs tests that are named by a section of the document and by the words of it that each of them tests. */
final class Edges {
    interface Body {
        void on(Checks checks);
    }

    private static final int FAR_BELOW = Integer.MIN_VALUE, FAR_ABOVE = Integer.MAX_VALUE;

    private final Checks checks;
    private final Document document;
    private String section = "";
    private int tests;

    Edges(Checks checks, Document document) {
        this.checks = checks;
        this.document = document;
    }

    void section(String name) {
        section = name;
    }

    void test(String words, Body body) {
        checks.begin(section + ", \"" + words + "\"");
        checks.isTrue("that one sentence has these words", document.names(section, words));
        try {
            body.on(checks);
        } catch (RuntimeException e) {
            checks.isTrue("that the test comes to its end without " + e, false);
        }
        checks.begin("");
        tests++;
    }

    /** These words name nothing that a call could be tested by; why is told beside them. */
    void noTest(String words, String why) {
        checks.begin(section + ", \"" + words + "\"");
        checks.isTrue("that one sentence has these words, and a reason (" + why + ")",
                document.names(section, words) && !why.isEmpty());
        checks.begin("");
    }

    int tests() {
        return tests;
    }

    /** Numbers just outside of a range, and far outside, are refused by an empty, a used and a full bench. */
    static void outside(Checks checks, Class<?> due, int least, int greatest, Checks.AskWith call) {
        for (int wrong : new int[] {least - 1, greatest + 1, FAR_BELOW, FAR_ABOVE}) {
            always(checks, "with " + wrong, due, bench -> call.of(bench, wrong));
        }
    }

    /** As outside, for a call that wants a book, print or skin, so that an empty bench refuses it in another way. */
    static void outsideOfUsed(Checks checks, Class<?> due, int least, int greatest, Checks.AskWith call) {
        for (int wrong : new int[] {least - 1, greatest + 1, FAR_BELOW, FAR_ABOVE}) {
            checks.refuses("with " + wrong + ", used", due, Benches.USED, bench -> call.of(bench, wrong));
            checks.refuses("with " + wrong + ", full", due, Benches.FULL, bench -> call.of(bench, wrong));
        }
    }

    static void always(Checks checks, String what, Class<?> due, Checks.Ask call) {
        checks.refuses(what + ", empty", due, Benches.EMPTY, call);
        checks.refuses(what + ", used", due, Benches.USED, call);
        checks.refuses(what + ", full", due, Benches.FULL, call);
    }

    /** Numbers of prints, books or skins that are not there: none when empty, two when used, so many when full. */
    static void notThere(Checks checks, int whenFull, Checks.AskWith call) {
        for (int wrong : new int[] {-1, whenFull, FAR_BELOW, FAR_ABOVE}) {
            always(checks, "number " + wrong, Checks.PLACE, bench -> call.of(bench, wrong));
        }
        checks.refuses("number 0, empty", Checks.PLACE, Benches.EMPTY, bench -> call.of(bench, 0));
        checks.refuses("number 2, used", Checks.PLACE, Benches.USED, bench -> call.of(bench, 2));
    }

    static void noBook(Checks checks, Checks.AskWith call) {
        notThere(checks, 4, call);
    }

    static void noPrint(Checks checks, Checks.AskWith call) {
        notThere(checks, 10, call);
    }

    static void noSkin(Checks checks, Checks.AskWith call) {
        notThere(checks, 3, call);
    }
}
