/**
 * A bench on which paper is marbled and books are bound by hand.
 * ../shared/DOC.md says what each call answers; the promises named here are its own.
 */
public final class MarbleBench {
    public static final int NONE = -1;
    public static final int THROUGH = 0, ALONG = 1, BACK = 2, UP = 3, DOWN = 4;
    public static final int TIGHT = 0, HOLLOW = 1, FLEX = 2;

    private static final int SIDE = 8;
    private static final int CELLS = SIDE * SIDE;
    private static final int LAST_COLOUR = 5;
    private static final int FULL_STRENGTH = 2;
    private static final int FARTHEST = 2 * (SIDE - 1) * (SIDE - 1);
    private static final int MOST_PRINTS = 10;

    private static final int MOST_FOLDS = 4;
    private static final int BACK_SIDE = 100;

    private static final int MOST_BOOKS = 4;
    private static final int MOST_GATHERINGS = 8;
    private static final int LEAST_LEAVES = 2, MOST_LEAVES = 16;
    private static final int LEAST_STATIONS = 3, MOST_STATIONS = 6;
    private static final int MOST_PARTS = MOST_STATIONS - 1;
    private static final int THICKEST_LEAF = 9;
    private static final int MOST_MOVES = 200;
    private static final int STATION_LENGTH = 10, GATHERING_LENGTH = 4;
    private static final int SWELL_OF_A_STITCH = 3;
    private static final int GREATEST_BOUND = 100000;

    private static final int MOST_SKINS = 3;
    private static final int THINNEST_SKIN = 8, THICKEST_SKIN = 30;
    private static final int LEAST_LEFT = 3;
    private static final int BORDER_THICKNESS = 6, INNER_THICKNESS = 12;

    private static final int MOST_REPAIRS = 20;
    private static final int LAST_STUFF = 4, LAST_STUFF_TO_UNDO = 2;
    private static final int MOST_SPEAKERS = 20;
    private static final int FIRST_YEAR = 1400, LAST_YEAR = 2000;
    private static final int GREATEST_WEIGHT = 9;

    private final Bath bath = new Bath();
    private final Print[] prints = new Print[MOST_PRINTS];
    private final Book[] books = new Book[MOST_BOOKS];
    private final Skin[] skins = new Skin[MOST_SKINS];
    private int printCount;
    private int bookCount;
    private int skinCount;

    public MarbleBench() {
    }

    // ---- bath, prints

    public int drop(int x, int y, int colour, int many) throws IndexOutOfBoundsException, IllegalArgumentException {
        demandPlace(isOnGrid(x, y));
        demandArgument(isWithin(colour, 0, LAST_COLOUR) && isWithin(many, 1, CELLS));
        return bath.spread(x, y, colour, many);
    }

    public int comb(boolean isRow, int line, int by) throws IndexOutOfBoundsException, IllegalArgumentException {
        demandPlace(isOnSide(line));
        demandArgument(isWithin(by, 1 - SIDE, SIDE - 1));
        return bath.shift(isRow, line, by);
    }

    public int lift() throws IllegalStateException {
        demandState(printCount < MOST_PRINTS);
        int number = printCount;
        prints[number] = bath.press();
        printCount++;
        bath.fade();
        return number;
    }

    public int clean() {
        return bath.empty();
    }

    public int cellAt(int x, int y, int what) throws IndexOutOfBoundsException, IllegalArgumentException {
        demandPlace(isOnGrid(x, y));
        demandArgument(isWithin(what, 0, 1));
        int cell = cellOf(x, y);
        return what == 0 ? bath.colours[cell] : bath.strengths[cell];
    }

    public int printAt(int print, int x, int y) throws IndexOutOfBoundsException {
        Print found = printOf(print);
        demandPlace(isOnGrid(x, y));
        return found.colours[cellOf(x, y)];
    }

    public int count(int print, int colour) throws IndexOutOfBoundsException, IllegalArgumentException {
        Print found = printOf(print);
        demandArgument(isWithin(colour, NONE, LAST_COLOUR));
        return found.cellsWith(colour);
    }

    // ---- sheets

    public int pageAt(int folds, boolean isBack, int column, int row) throws IllegalArgumentException {
        demandArgument(isWithin(folds, 1, MOST_FOLDS));
        demandArgument(isWithin(column, 0, columnsOf(folds) - 1) && isWithin(row, 0, rowsOf(folds) - 1));
        return foldedPage(folds, isBack, column, row);
    }

    public int placeOf(int folds, int page) throws IllegalArgumentException {
        demandArgument(isWithin(folds, 1, MOST_FOLDS));
        demandArgument(isWithin(page, 1, 2 * columnsOf(folds) * rowsOf(folds)));
        return unfoldedPlace(folds, page);
    }

    // ---- books, threads

    public int book(int gatherings, int leaves, int stations, int thickness, boolean isOld)
            throws IllegalArgumentException, IllegalStateException {
        demandArgument(isWithin(gatherings, 1, MOST_GATHERINGS) && isWithin(leaves, LEAST_LEAVES, MOST_LEAVES));
        demandArgument(isWithin(stations, LEAST_STATIONS, MOST_STATIONS) && isWithin(thickness, 1, THICKEST_LEAF));
        demandState(bookCount < MOST_BOOKS);
        int number = bookCount;
        books[number] = new Book(gatherings, leaves, stations, thickness, isOld);
        bookCount++;
        return number;
    }

    public int sew(int book, int move)
            throws IndexOutOfBoundsException, IllegalArgumentException, IllegalStateException {
        Sewing sewing = bookOf(book).sewing;
        demandArgument(isWithin(move, THROUGH, DOWN));
        demandState(sewing.allows(move));
        sewing.make(move);
        return sewing.length;
    }

    public int unsew(int book, int many)
            throws IndexOutOfBoundsException, IllegalArgumentException, IllegalStateException {
        Sewing sewing = bookOf(book).sewing;
        demandArgument(isWithin(many, 1, MOST_MOVES));
        demandState(many <= sewing.moveCount);
        for (int i = 0; i < many; i++) {
            sewing.takeBack();
        }
        return sewing.length;
    }

    public int ofThread(int book, int what) throws IndexOutOfBoundsException, IllegalArgumentException {
        Sewing sewing = bookOf(book).sewing;
        demandArgument(isWithin(what, 0, 5));
        switch (what) {
            case 0: return sewing.length;
            case 1: return sewing.gathering;
            case 2: return sewing.station;
            case 3: return sewing.isInside ? 1 : 0;
            case 4: return sewing.moveCount;
            default: return sewing.isSewn() ? 1 : 0;
        }
    }

    public int stitches(int book, int gathering, int part) throws IndexOutOfBoundsException {
        Sewing sewing = bookOf(book).sewing;
        demandPlace(isWithin(gathering, 0, sewing.gatherings - 1) && isWithin(part, 0, sewing.stations - 2));
        return sewing.stitchesAt(gathering, part);
    }

    public boolean isHeld(int book, int gathering) throws IndexOutOfBoundsException {
        Sewing sewing = bookOf(book).sewing;
        demandPlace(isWithin(gathering, 0, sewing.gatherings - 1));
        return sewing.holds(gathering);
    }

    // ---- spines, openings

    public int back(int book, int back) throws IndexOutOfBoundsException, IllegalArgumentException {
        Book found = bookOf(book);
        demandArgument(isWithin(back, TIGHT, FLEX));
        int before = found.spine;
        found.spine = back;
        return before;
    }

    public int swelling(int book) throws IndexOutOfBoundsException {
        return bookOf(book).sewing.swell();
    }

    public int strain(int book, int opening) throws IndexOutOfBoundsException, IllegalArgumentException {
        Book found = bookOf(book);
        demandArgument(isWithin(opening, 0, found.leavesInAll));
        return found.bendAt(opening) + found.sewing.swell();
    }

    public int worst(int book) throws IndexOutOfBoundsException {
        return bookOf(book).stiffestOpening();
    }

    public int opens(int book, int bound) throws IndexOutOfBoundsException, IllegalArgumentException {
        Book found = bookOf(book);
        demandArgument(isWithin(bound, 0, GREATEST_BOUND));
        return found.openingsWithin(bound);
    }

    // ---- skins

    public int skin(int thickness) throws IllegalArgumentException, IllegalStateException {
        demandArgument(isWithin(thickness, THINNEST_SKIN, THICKEST_SKIN));
        demandState(skinCount < MOST_SKINS);
        int number = skinCount;
        skins[number] = new Skin(thickness);
        skinCount++;
        return number;
    }

    public int pare(int skin, int left, int right, int top, int low, int by)
            throws IndexOutOfBoundsException, IllegalArgumentException, IllegalStateException {
        Skin found = skinOf(skin);
        demandPlace(isOnGrid(left, top) && isOnGrid(right, low) && left <= right && top <= low);
        demandArgument(isWithin(by, 1, THICKEST_SKIN - LEAST_LEFT));
        int least = found.thinnest(left, right, top, low) - by;
        demandState(least >= LEAST_LEFT);
        found.thin(left, right, top, low, by);
        return least;
    }

    public int thickAt(int skin, int column, int row) throws IndexOutOfBoundsException {
        Skin found = skinOf(skin);
        demandPlace(isOnGrid(column, row));
        return found.thicknesses[cellOf(column, row)];
    }

    public int tooThick(int skin) throws IndexOutOfBoundsException {
        return skinOf(skin).placesTooThick();
    }

    // ---- repairs, years

    public int repair(int book, int stuff)
            throws IndexOutOfBoundsException, IllegalArgumentException, IllegalStateException {
        Book found = bookOf(book);
        demandArgument(isWithin(stuff, 0, LAST_STUFF));
        demandState(!found.isOld || canBeUndone(stuff));
        demandState(found.repairs.number < MOST_REPAIRS);
        found.repairs.add(stuff);
        return found.repairs.number;
    }

    public int undo(int book) throws IndexOutOfBoundsException, IllegalStateException {
        Repairs repairs = bookOf(book).repairs;
        int stuff = repairs.latest();
        demandState(stuff != NONE && canBeUndone(stuff));
        repairs.dropLatest();
        return stuff;
    }

    public int speak(int book, int from, int to, int weight)
            throws IndexOutOfBoundsException, IllegalArgumentException, IllegalStateException {
        Speakers speakers = bookOf(book).speakers;
        demandArgument(isWithin(from, FIRST_YEAR, LAST_YEAR) && isWithin(to, from, LAST_YEAR));
        demandArgument(isWithin(weight, 1, GREATEST_WEIGHT));
        demandState(speakers.number < MOST_SPEAKERS);
        speakers.add(from, to, weight);
        return speakers.number;
    }

    public int year(int book, boolean isLast) throws IndexOutOfBoundsException {
        Speakers speakers = bookOf(book).speakers;
        int first = speakers.firstByEnds();
        return isLast && first != NONE ? speakers.lastByEnds(first) : first;
    }

    public int yearAnew(int book, boolean isLast) throws IndexOutOfBoundsException {
        Speakers speakers = bookOf(book).speakers;
        int first = speakers.firstByYears();
        return isLast && first != NONE ? speakers.lastByYears(first) : first;
    }

    // ---- what calls are tested by

    private static boolean isWithin(int number, int least, int greatest) {
        return number >= least && number <= greatest;
    }

    private static boolean isOnSide(int number) {
        return isWithin(number, 0, SIDE - 1);
    }

    private static boolean isOnGrid(int column, int row) {
        return isOnSide(column) && isOnSide(row);
    }

    private static int cellOf(int column, int row) {
        return row * SIDE + column;
    }

    private static boolean canBeUndone(int stuff) {
        return stuff <= LAST_STUFF_TO_UNDO;
    }

    private static void demandPlace(boolean isThere) {
        if (!isThere) {
            throw new IndexOutOfBoundsException("there is no such place");
        }
    }

    private static void demandArgument(boolean isInRange) {
        if (!isInRange) {
            throw new IllegalArgumentException("an argument is out of its range");
        }
    }

    private static void demandState(boolean isAllowed) {
        if (!isAllowed) {
            throw new IllegalStateException("this cannot be done now");
        }
    }

    private Print printOf(int number) {
        Print found = isWithin(number, 0, MOST_PRINTS - 1) ? prints[number] : null;
        if (found == null) {
            throw new IndexOutOfBoundsException("there is no such print");
        }
        return found;
    }

    private Book bookOf(int number) {
        Book found = isWithin(number, 0, MOST_BOOKS - 1) ? books[number] : null;
        if (found == null) {
            throw new IndexOutOfBoundsException("there is no such book");
        }
        return found;
    }

    private Skin skinOf(int number) {
        Skin found = isWithin(number, 0, MOST_SKINS - 1) ? skins[number] : null;
        if (found == null) {
            throw new IndexOutOfBoundsException("there is no such skin");
        }
        return found;
    }

    // ---- how sheets fold

    private static int columnsOf(int folds) {
        return 1 << ((folds + 1) / 2);
    }

    private static int rowsOf(int folds) {
        return 1 << (folds / 2);
    }

    /**
     * The page of one side of a place. A packet of so many pages that is turned over
     * counts them from the other end; one that gets such a packet on top of it counts on behind it.
     */
    private static int foldedPage(int folds, boolean isBack, int column, int row) {
        int columns = columnsOf(folds);
        int rows = rowsOf(folds);
        int pages = 2;
        int page = isBack ? 2 : 1;
        for (int fold = 0; fold < folds; fold++) {
            boolean isTurned;
            if (fold % 2 == 0) {
                columns /= 2;
                isTurned = column >= columns;
                column = isTurned ? 2 * columns - 1 - column : column;
            } else {
                rows /= 2;
                isTurned = row >= rows;
                row = isTurned ? 2 * rows - 1 - row : row;
            }
            page = isTurned ? pages + 1 - page : pages + page;
            pages *= 2;
        }
        return page;
    }

    private static int unfoldedPlace(int folds, int page) {
        for (int row = 0; row < rowsOf(folds); row++) {
            for (int column = 0; column < columnsOf(folds); column++) {
                if (foldedPage(folds, false, column, row) == page) {
                    return 10 * row + column;
                }
                if (foldedPage(folds, true, column, row) == page) {
                    return BACK_SIDE + 10 * row + column;
                }
            }
        }
        return NONE;
    }

    /** The bath: the cells of a row lie one behind the other, row by row. */
    private static final class Bath {
        private final int[] colours = new int[CELLS];
        private final int[] strengths = new int[CELLS];
        private final int[] cellsAway = new int[FARTHEST + 1];
        private final int[] lineColours = new int[SIDE];
        private final int[] lineStrengths = new int[SIDE];

        Bath() {
            for (int cell = 0; cell < CELLS; cell++) {
                colours[cell] = NONE;
            }
        }

        int spread(int x, int y, int colour, int many) {
            countCellsAway(x, y);
            int reach = 0;
            int left = many;
            while (reach < FARTHEST && left > cellsAway[reach]) {
                left -= cellsAway[reach];
                reach++;
            }
            // Cells are numbered in the order in which those that are equally far are taken.
            int coloured = 0;
            for (int cell = 0; cell < CELLS; cell++) {
                int away = distance(cell, x, y);
                boolean isTaken = away < reach || away == reach && left > 0;
                if (away == reach) {
                    left--;
                }
                if (isTaken && colours[cell] <= colour) {
                    colours[cell] = colour;
                    strengths[cell] = FULL_STRENGTH;
                    coloured++;
                }
            }
            return coloured;
        }

        private void countCellsAway(int x, int y) {
            for (int away = 0; away <= FARTHEST; away++) {
                cellsAway[away] = 0;
            }
            for (int cell = 0; cell < CELLS; cell++) {
                cellsAway[distance(cell, x, y)]++;
            }
        }

        private static int distance(int cell, int x, int y) {
            int dx = cell % SIDE - x;
            int dy = cell / SIDE - y;
            return dx * dx + dy * dy;
        }

        int shift(boolean isRow, int line, int by) {
            int first = isRow ? cellOf(0, line) : cellOf(line, 0);
            int step = isRow ? 1 : SIDE;
            for (int place = 0; place < SIDE; place++) {
                int to = Math.floorMod(place + by, SIDE);
                lineColours[to] = colours[first + place * step];
                lineStrengths[to] = strengths[first + place * step];
            }
            int coloured = 0;
            for (int place = 0; place < SIDE; place++) {
                colours[first + place * step] = lineColours[place];
                strengths[first + place * step] = lineStrengths[place];
                coloured += lineColours[place] == NONE ? 0 : 1;
            }
            return coloured;
        }

        Print press() {
            Print print = new Print();
            for (int cell = 0; cell < CELLS; cell++) {
                print.colours[cell] = colours[cell];
            }
            return print;
        }

        void fade() {
            for (int cell = 0; cell < CELLS; cell++) {
                if (colours[cell] != NONE) {
                    strengths[cell]--;
                    colours[cell] = strengths[cell] > 0 ? colours[cell] : NONE;
                }
            }
        }

        int empty() {
            int coloured = 0;
            for (int cell = 0; cell < CELLS; cell++) {
                coloured += colours[cell] == NONE ? 0 : 1;
                colours[cell] = NONE;
                strengths[cell] = 0;
            }
            return coloured;
        }
    }

    /** A print: a copy of the colours that the bath had. */
    private static final class Print {
        private final int[] colours = new int[CELLS];

        int cellsWith(int colour) {
            int cells = 0;
            for (int cell = 0; cell < CELLS; cell++) {
                cells += colours[cell] == colour ? 1 : 0;
            }
            return cells;
        }
    }

    /** A book, but for its thread, its repairs and what speaks for its years, which it holds as parts. */
    private static final class Book {
        private final Sewing sewing;
        private final Repairs repairs = new Repairs();
        private final Speakers speakers = new Speakers();
        private final int leavesInAll;
        private final int thickness;
        private final boolean isOld;
        private int spine = TIGHT;

        Book(int gatherings, int leaves, int stations, int thickness, boolean isOld) {
            this.sewing = new Sewing(gatherings, stations);
            this.leavesInAll = gatherings * leaves;
            this.thickness = thickness;
            this.isOld = isOld;
        }

        /** The strain of an opening without the swelling, which is alike in all of them. */
        int bendAt(int opening) {
            return Math.min(opening, leavesInAll - opening) * thickness * stiffness();
        }

        private int stiffness() {
            switch (spine) {
                case HOLLOW: return 1;
                case FLEX: return 2;
                default: return 4;
            }
        }

        int stiffestOpening() {
            int stiffest = 0;
            for (int opening = 1; opening <= leavesInAll; opening++) {
                if (bendAt(opening) > bendAt(stiffest)) {
                    stiffest = opening;
                }
            }
            return stiffest;
        }

        int openingsWithin(int bound) {
            int swell = sewing.swell();
            int openings = 0;
            for (int opening = 0; opening <= leavesInAll; opening++) {
                openings += bendAt(opening) + swell <= bound ? 1 : 0;
            }
            return openings;
        }
    }

    /** The thread of a book: where it is, the moves that led it there and what they laid. */
    private static final class Sewing {
        private final int gatherings;
        private final int stations;
        private final int[] laid = new int[MOST_GATHERINGS * MOST_PARTS];
        private final int[] links = new int[MOST_GATHERINGS];
        private final int[] moves = new int[MOST_MOVES];
        private int moveCount;
        private int gathering;
        private int station;
        private boolean isInside;
        private int length;

        Sewing(int gatherings, int stations) {
            this.gatherings = gatherings;
            this.stations = stations;
        }

        boolean allows(int move) {
            if (moveCount >= MOST_MOVES) {
                return false;
            }
            switch (move) {
                case ALONG: return station + 1 < stations;
                case BACK: return station > 0;
                case UP: return !isInside && gathering + 1 < gatherings;
                case DOWN: return !isInside && gathering > 0;
                default: return true;
            }
        }

        void make(int move) {
            if (moveCount < MOST_MOVES) {
                moves[moveCount] = move;
                moveCount++;
                go(move, 1);
            }
        }

        void takeBack() {
            if (moveCount > 0) {
                moveCount--;
                go(opposite(moves[moveCount]), -1);
            }
        }

        private static int opposite(int move) {
            switch (move) {
                case ALONG: return BACK;
                case BACK: return ALONG;
                case UP: return DOWN;
                case DOWN: return UP;
                default: return THROUGH;
            }
        }

        /** Goes the way of a move; what it lays is added once (times 1) or taken away (times -1). */
        private void go(int move, int times) {
            switch (move) {
                case ALONG:
                    pass(station, times);
                    station++;
                    break;
                case BACK:
                    station--;
                    pass(station, times);
                    break;
                case UP:
                    link(gathering, times);
                    gathering++;
                    break;
                case DOWN:
                    gathering--;
                    link(gathering, times);
                    break;
                default:
                    isInside = !isInside;
            }
        }

        private void pass(int part, int times) {
            length += times * STATION_LENGTH;
            int at = gathering * MOST_PARTS + part;
            if (isInside && at >= 0 && at < laid.length) {
                laid[at] += times;
            }
        }

        private void link(int lower, int times) {
            length += times * GATHERING_LENGTH;
            if (lower >= 0 && lower < links.length) {
                links[lower] += times;
            }
        }

        int stitchesAt(int ofGathering, int part) {
            int at = ofGathering * MOST_PARTS + part;
            return at >= 0 && at < laid.length ? laid[at] : 0;
        }

        boolean holds(int ofGathering) {
            int stitched = 0;
            for (int part = 0; part < stations - 1; part++) {
                stitched += stitchesAt(ofGathering, part) > 0 ? 1 : 0;
            }
            return stitched >= stations / 2;
        }

        boolean isSewn() {
            boolean isWhole = !isInside;
            for (int at = 0; at < gatherings; at++) {
                isWhole = isWhole && holds(at);
            }
            for (int lower = 0; lower < gatherings - 1 && lower < links.length; lower++) {
                isWhole = isWhole && links[lower] > 0;
            }
            return isWhole;
        }

        int swell() {
            int sum = 0;
            for (int at = 0; at < gatherings; at++) {
                sum += mostStitches(at);
            }
            return SWELL_OF_A_STITCH * sum;
        }

        private int mostStitches(int ofGathering) {
            int most = 0;
            for (int part = 0; part < stations - 1; part++) {
                most = Math.max(most, stitchesAt(ofGathering, part));
            }
            return most;
        }
    }

    /** The repairs of a book that are not undone, the latest one last. */
    private static final class Repairs {
        private final int[] stuffs = new int[MOST_REPAIRS];
        private int number;

        void add(int stuff) {
            if (number < MOST_REPAIRS) {
                stuffs[number] = stuff;
                number++;
            }
        }

        int latest() {
            return number > 0 ? stuffs[number - 1] : NONE;
        }

        void dropLatest() {
            if (number > 0) {
                number--;
            }
        }
    }

    /** All that speaks for the years of a book. */
    private static final class Speakers {
        private final int[] froms = new int[MOST_SPEAKERS];
        private final int[] tos = new int[MOST_SPEAKERS];
        private final int[] weights = new int[MOST_SPEAKERS];
        private int number;

        void add(int from, int to, int weight) {
            if (number < MOST_SPEAKERS) {
                froms[number] = from;
                tos[number] = to;
                weights[number] = weight;
                number++;
            }
        }

        private int weightIn(int aYear) {
            int sum = 0;
            for (int i = 0; i < number && i < MOST_SPEAKERS; i++) {
                sum += isWithin(aYear, froms[i], tos[i]) ? weights[i] : 0;
            }
            return sum;
        }

        /** A sum grows only where something begins to speak: the first year with the greatest sum is such a one. */
        int firstByEnds() {
            int greatest = 0;
            int first = NONE;
            for (int i = 0; i < number && i < MOST_SPEAKERS; i++) {
                int sum = weightIn(froms[i]);
                if (sum > greatest || sum == greatest && froms[i] < first) {
                    greatest = sum;
                    first = froms[i];
                }
            }
            return first;
        }

        /** The greatest sum can only fall, and it falls only where something has just ended. */
        int lastByEnds(int first) {
            int greatest = weightIn(first);
            int last = LAST_YEAR;
            for (int i = 0; i < number && i < MOST_SPEAKERS; i++) {
                if (isWithin(tos[i], first, last) && weightIn(tos[i] + 1) < greatest) {
                    last = tos[i];
                }
            }
            return last;
        }

        int firstByYears() {
            int greatest = 0;
            int first = NONE;
            for (int aYear = FIRST_YEAR; aYear <= LAST_YEAR; aYear++) {
                int sum = weightIn(aYear);
                if (sum > greatest) {
                    greatest = sum;
                    first = aYear;
                }
            }
            return first;
        }

        int lastByYears(int first) {
            int greatest = weightIn(first);
            int last = first;
            while (last < LAST_YEAR && weightIn(last + 1) == greatest) {
                last++;
            }
            return last;
        }
    }

    /** A skin: the places of a row lie one behind the other, row by row. */
    private static final class Skin {
        private final int[] thicknesses = new int[CELLS];

        Skin(int thickness) {
            for (int place = 0; place < CELLS; place++) {
                thicknesses[place] = thickness;
            }
        }

        int thinnest(int left, int right, int top, int low) {
            int least = THICKEST_SKIN;
            for (int row = top; row <= low; row++) {
                for (int column = left; column <= right; column++) {
                    least = Math.min(least, thicknesses[cellOf(column, row)]);
                }
            }
            return least;
        }

        void thin(int left, int right, int top, int low, int by) {
            for (int row = top; row <= low; row++) {
                for (int column = left; column <= right; column++) {
                    thicknesses[cellOf(column, row)] -= by;
                }
            }
        }

        int placesTooThick() {
            int places = 0;
            for (int row = 0; row < SIDE; row++) {
                for (int column = 0; column < SIDE; column++) {
                    places += thicknesses[cellOf(column, row)] > mostAt(column, row) ? 1 : 0;
                }
            }
            return places;
        }

        private static int mostAt(int column, int row) {
            boolean isInner = isWithin(column, 1, SIDE - 2) && isWithin(row, 1, SIDE - 2);
            return isInner ? INNER_THICKNESS : BORDER_THICKNESS;
        }
    }
}
