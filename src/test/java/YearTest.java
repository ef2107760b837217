/** Promises 28 to 30: what speaks for the years of a book. */
final class YearTest {
    private static final int NONE = MarbleBench.NONE;
    private static final int[] WRONG_BOOKS = {-1, 2, 4, Integer.MIN_VALUE, Integer.MAX_VALUE};

    private static final Checks.Setup TWO_BOOKS = bench -> {
        bench.book(1, 2, 3, 1, true);
        bench.book(1, 2, 3, 1, false);
        bench.speak(0, 1500, 1600, 3);
        bench.speak(0, 1550, 1700, 3);
    };
    private static final Checks.Setup ALL_SPEAK = bench -> {
        bench.book(1, 2, 3, 1, true);
        for (int i = 0; i < 20; i++) {
            bench.speak(0, 1400 + 20 * i, 2000 - 10 * i, 9);
        }
    };

    private YearTest() {
    }

    static void run(Checks checks) {
        speakers(checks);
        speakRefused(checks);
        noYears(checks);
        oneRun(checks);
        firstOfSeveralRuns(checks);
        joinedRuns(checks);
        edges(checks);
        allSpeak(checks);
        yearRefused(checks);
    }

    /** Speaks for the years of a new book by rows of from, to and weight, and asks both methods. */
    private static void years(Checks checks, String what, int first, int last, int[]... spoken) {
        MarbleBench bench = new MarbleBench();
        bench.book(1, 2, 3, 1, true);
        for (int[] one : spoken) {
            bench.speak(0, one[0], one[1], one[2]);
        }
        asked(checks, what, bench, 0, first, last);
    }

    private static void asked(Checks checks, String what, MarbleBench bench, int book, int first, int last) {
        checks.due("first year, " + what, first, bench.year(book, false));
        checks.due("last year, " + what, last, bench.year(book, true));
        checks.due("first year anew, " + what, first, bench.yearAnew(book, false));
        checks.due("last year anew, " + what, last, bench.yearAnew(book, true));
    }

    private static int[] row(int from, int to, int weight) {
        return new int[] {from, to, weight};
    }

    private static void speakers(Checks checks) {
        MarbleBench bench = new MarbleBench();
        bench.book(1, 2, 3, 1, true);
        bench.book(1, 2, 3, 1, false);
        for (int many = 1; many <= 20; many++) {
            checks.due("speak", many, bench.speak(0, 1500, 1500, 1));
        }
        checks.due("speak of the other book", 1, bench.speak(1, 1400, 2000, 9));
        asked(checks, "one book", bench, 0, 1500, 1500);
        asked(checks, "the other book", bench, 1, 1400, 2000);
    }

    private static void speakRefused(Checks checks) {
        for (int wrong : WRONG_BOOKS) {
            checks.refuses("speak of book " + wrong, Checks.PLACE, TWO_BOOKS, b -> b.speak(wrong, 1500, 1500, 1));
            checks.refuses("speak of book before from", Checks.PLACE, TWO_BOOKS, b -> b.speak(wrong, 1399, 0, 0));
        }
        for (int wrong : new int[] {1399, 2001, 0, -1, Integer.MIN_VALUE, Integer.MAX_VALUE}) {
            checks.refuses("speak from " + wrong, Checks.ARGUMENT, TWO_BOOKS, b -> b.speak(0, wrong, 2000, 1));
            checks.refuses("speak to " + wrong, Checks.ARGUMENT, TWO_BOOKS, b -> b.speak(0, 1400, wrong, 1));
            checks.refuses("speak from and to " + wrong, Checks.ARGUMENT, TWO_BOOKS, b -> b.speak(0, wrong, wrong, 1));
        }
        checks.refuses("speak to before from", Checks.ARGUMENT, TWO_BOOKS, b -> b.speak(0, 1551, 1550, 1));
        for (int wrong : new int[] {0, -1, 10, Integer.MIN_VALUE, Integer.MAX_VALUE}) {
            checks.refuses("speak with " + wrong, Checks.ARGUMENT, TWO_BOOKS, b -> b.speak(0, 1500, 1500, wrong));
            checks.refuses("weight before 20", Checks.ARGUMENT, ALL_SPEAK, b -> b.speak(0, 1500, 1500, wrong));
        }
        checks.refuses("speak 21", Checks.STATE, ALL_SPEAK, b -> b.speak(0, 1500, 1500, 1));
    }

    private static void noYears(Checks checks) {
        years(checks, "without anything", NONE, NONE);
    }

    private static void oneRun(Checks checks) {
        years(checks, "one", 1500, 1600, row(1500, 1600, 1));
        years(checks, "two that overlap", 1550, 1600, row(1500, 1600, 3), row(1550, 1700, 3));
        years(checks, "one within another", 1520, 1530, row(1500, 1600, 3), row(1520, 1530, 1));
        years(checks, "the greater weight", 1650, 1700, row(1500, 1600, 3), row(1650, 1700, 4));
        years(checks, "two lesser ones outweigh", 1610, 1620,
                row(1500, 1600, 5), row(1610, 1640, 3), row(1605, 1620, 3));
        years(checks, "one that is told twice", 1500, 1500, row(1500, 1500, 1), row(1400, 2000, 1), row(1500, 1500, 1));
    }

    private static void firstOfSeveralRuns(Checks checks) {
        years(checks, "two alike", 1500, 1510, row(1700, 1710, 4), row(1500, 1510, 4));
        years(checks, "two alike, the other way round", 1500, 1510, row(1500, 1510, 4), row(1700, 1710, 4));
        years(checks, "a gap of one year", 1500, 1510, row(1500, 1510, 4), row(1512, 1520, 4));
        years(checks, "a gap in what lies below", 1500, 1510,
                row(1400, 2000, 2), row(1500, 1510, 4), row(1512, 1520, 4));
    }

    /** Two that follow one another with the same sum are one run of years. */
    private static void joinedRuns(Checks checks) {
        years(checks, "one after another", 1500, 1520, row(1511, 1520, 4), row(1500, 1510, 4));
        years(checks, "then a lesser one", 1500, 1510, row(1511, 1520, 3), row(1500, 1510, 4));
        years(checks, "then a greater one", 1511, 1520, row(1511, 1520, 5), row(1500, 1510, 4));
        years(checks, "two take over from one", 1500, 1515,
                row(1500, 1510, 4), row(1511, 1515, 1), row(1511, 1520, 3));
        years(checks, "single years", 1500, 1502, row(1501, 1501, 9), row(1502, 1502, 9), row(1500, 1500, 9));
    }

    private static void edges(Checks checks) {
        years(checks, "all years", 1400, 2000, row(1400, 2000, 9));
        years(checks, "the first year", 1400, 1400, row(1400, 1400, 1));
        years(checks, "the last year", 2000, 2000, row(2000, 2000, 1));
        years(checks, "up to the last year", 1999, 2000, row(1999, 2000, 1));
        years(checks, "the last year after all years", 2000, 2000, row(1400, 2000, 1), row(2000, 2000, 1));
        years(checks, "the year before the last", 1999, 1999, row(1400, 2000, 1), row(1999, 1999, 1));
    }

    private static void allSpeak(Checks checks) {
        asked(checks, "all 20", Checks.made(ALL_SPEAK), 0, 1780, 1810);
    }

    private static void yearRefused(Checks checks) {
        for (int wrong : WRONG_BOOKS) {
            for (boolean isLast : new boolean[] {true, false}) {
                checks.refuses("year of book " + wrong, Checks.PLACE, TWO_BOOKS, b -> b.year(wrong, isLast));
                checks.refuses("yearAnew of book " + wrong, Checks.PLACE, TWO_BOOKS, b -> b.yearAnew(wrong, isLast));
            }
        }
    }
}
