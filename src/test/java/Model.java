import java.util.ArrayList;
import java.util.Collections;
import java.util.Comparator;
import java.util.List;

/**
 * A second bench, told by the document in another way: cells are sorted, paper is folded as stacks of leaves,
 * threads are led anew for each question. It shares nothing with the class.
 */
final class Model {
    private static final int NONE = -1;

    private final int[][] colour = new int[8][8];
    private final int[][] strength = new int[8][8];
    private final List<int[][]> prints = new ArrayList<>();
    private final List<ModelBook> books = new ArrayList<>();
    private final List<int[][]> skins = new ArrayList<>();

    Model() {
        for (int[] row : colour) {
            java.util.Arrays.fill(row, NONE);
        }
    }

    private static boolean out(int value, int least, int greatest) {
        return value < least || value > greatest;
    }

    private static void place(boolean isWrong) {
        if (isWrong) {
            throw new IndexOutOfBoundsException();
        }
    }

    private static void argument(boolean isWrong) {
        if (isWrong) {
            throw new IllegalArgumentException();
        }
    }

    private static void state(boolean isWrong) {
        if (isWrong) {
            throw new IllegalStateException();
        }
    }

    int drop(int x, int y, int dropped, int many) {
        place(out(x, 0, 7) || out(y, 0, 7));
        argument(out(dropped, 0, 5) || out(many, 1, 64));
        List<int[]> cells = new ArrayList<>();
        for (int cx = 0; cx < 8; cx++) {
            for (int cy = 0; cy < 8; cy++) {
                cells.add(new int[] {(cx - x) * (cx - x) + (cy - y) * (cy - y), cy, cx});
            }
        }
        cells.sort(Comparator.<int[]>comparingInt(c -> c[0]).thenComparingInt(c -> c[1]).thenComparingInt(c -> c[2]));
        int got = 0;
        for (int[] cell : cells.subList(0, many)) {
            int there = colour[cell[1]][cell[2]];
            if (there == NONE || there <= dropped) {
                colour[cell[1]][cell[2]] = dropped;
                strength[cell[1]][cell[2]] = 2;
                got++;
            }
        }
        return got;
    }

    int comb(boolean isRow, int line, int by) {
        place(out(line, 0, 7));
        argument(out(by, -7, 7));
        List<int[]> cells = new ArrayList<>();
        for (int p = 0; p < 8; p++) {
            int y = isRow ? line : p;
            int x = isRow ? p : line;
            cells.add(new int[] {colour[y][x], strength[y][x]});
        }
        Collections.rotate(cells, by);
        int got = 0;
        for (int p = 0; p < 8; p++) {
            int y = isRow ? line : p;
            int x = isRow ? p : line;
            colour[y][x] = cells.get(p)[0];
            strength[y][x] = cells.get(p)[1];
            got += colour[y][x] == NONE ? 0 : 1;
        }
        return got;
    }

    int lift() {
        state(prints.size() == 10);
        int[][] print = new int[8][];
        for (int y = 0; y < 8; y++) {
            print[y] = colour[y].clone();
            for (int x = 0; x < 8; x++) {
                strength[y][x] = Math.max(0, strength[y][x] - 1);
                colour[y][x] = strength[y][x] == 0 ? NONE : colour[y][x];
            }
        }
        prints.add(print);
        return prints.size() - 1;
    }

    int clean() {
        int had = 0;
        for (int y = 0; y < 8; y++) {
            for (int x = 0; x < 8; x++) {
                had += colour[y][x] == NONE ? 0 : 1;
                colour[y][x] = NONE;
                strength[y][x] = 0;
            }
        }
        return had;
    }

    int cellAt(int x, int y, int what) {
        place(out(x, 0, 7) || out(y, 0, 7));
        argument(out(what, 0, 1));
        return what == 0 ? colour[y][x] : strength[y][x];
    }

    int printAt(int print, int x, int y) {
        place(out(print, 0, prints.size() - 1) || out(x, 0, 7) || out(y, 0, 7));
        return prints.get(print)[y][x];
    }

    int count(int print, int counted) {
        place(out(print, 0, prints.size() - 1));
        argument(out(counted, -1, 5));
        int cells = 0;
        for (int[] row : prints.get(print)) {
            for (int there : row) {
                cells += there == counted ? 1 : 0;
            }
        }
        return cells;
    }

    /** The leaves of the folded sheet from above; a leaf is its column, its row and whether its back is up. */
    private static List<int[]> packet(int folds) {
        List<List<List<int[]>>> stacks = new ArrayList<>();
        for (int row = 0; row < (folds < 2 ? 1 : folds < 4 ? 2 : 4); row++) {
            stacks.add(new ArrayList<>());
            for (int column = 0; column < (folds < 3 ? 2 : 4); column++) {
                stacks.get(row).add(new ArrayList<>(List.of(new int[] {column, row, 0})));
            }
        }
        for (int fold = 0; fold < folds; fold++) {
            if (fold % 2 == 0) {
                for (List<List<int[]>> row : stacks) {
                    for (int left = 0; left < row.size(); left++) {
                        row.get(left).addAll(0, turned(row.remove(row.size() - 1)));
                    }
                }
            } else {
                for (int upper = 0; upper < stacks.size(); upper++) {
                    List<List<int[]>> lower = stacks.remove(stacks.size() - 1);
                    for (int column = 0; column < lower.size(); column++) {
                        stacks.get(upper).get(column).addAll(0, turned(lower.get(column)));
                    }
                }
            }
        }
        return stacks.get(0).get(0);
    }

    private static List<int[]> turned(List<int[]> stack) {
        List<int[]> over = new ArrayList<>();
        for (int[] leaf : stack) {
            over.add(0, new int[] {leaf[0], leaf[1], 1 - leaf[2]});
        }
        return over;
    }

    int pageAt(int folds, boolean isBack, int column, int row) {
        argument(out(folds, 1, 4));
        argument(out(column, 0, folds < 3 ? 1 : 3) || out(row, 0, folds < 2 ? 0 : folds < 4 ? 1 : 3));
        int page = 1;
        for (int[] leaf : packet(folds)) {
            if (leaf[0] == column && leaf[1] == row) {
                return isBack == (leaf[2] == 1) ? page : page + 1;
            }
            page += 2;
        }
        throw new AssertionError();
    }

    int placeOf(int folds, int page) {
        argument(out(folds, 1, 4) || out(page, 1, 2 << folds));
        int[] leaf = packet(folds).get((page - 1) / 2);
        boolean isBack = (page % 2 == 1) == (leaf[2] == 1);
        return (isBack ? 100 : 0) + 10 * leaf[1] + leaf[0];
    }

    int book(int gatherings, int leaves, int stations, int thickness, boolean isOld) {
        argument(out(gatherings, 1, 8) || out(leaves, 2, 16) || out(stations, 3, 6) || out(thickness, 1, 9));
        state(books.size() == 4);
        books.add(new ModelBook(gatherings, leaves, stations, thickness, isOld));
        return books.size() - 1;
    }

    private ModelBook of(int book) {
        place(out(book, 0, books.size() - 1));
        return books.get(book);
    }

    int sew(int book, int move) {
        ModelBook one = of(book);
        argument(out(move, 0, 4));
        state(one.moves.size() == 200);
        one.moves.add(move);
        if (!one.lead()) {
            one.moves.remove(one.moves.size() - 1);
            one.lead();
            throw new IllegalStateException();
        }
        return one.length;
    }

    int unsew(int book, int many) {
        ModelBook one = of(book);
        argument(out(many, 1, 200));
        state(many > one.moves.size());
        one.moves.subList(one.moves.size() - many, one.moves.size()).clear();
        one.lead();
        return one.length;
    }

    int ofThread(int book, int what) {
        ModelBook one = of(book);
        argument(out(what, 0, 5));
        int[] told = {one.length, one.gathering, one.station, one.inside ? 1 : 0, one.moves.size(), one.sewn() ? 1 : 0};
        return told[what];
    }

    int stitches(int book, int gathering, int part) {
        ModelBook one = of(book);
        place(out(gathering, 0, one.gatherings - 1) || out(part, 0, one.stations - 2));
        return one.stitches[gathering][part];
    }

    int isHeld(int book, int gathering) {
        ModelBook one = of(book);
        place(out(gathering, 0, one.gatherings - 1));
        return one.held(gathering) ? 1 : 0;
    }

    int back(int book, int back) {
        ModelBook one = of(book);
        argument(out(back, 0, 2));
        int before = one.back;
        one.back = back;
        return before;
    }

    int swelling(int book) {
        return of(book).swelling();
    }

    int strain(int book, int opening) {
        ModelBook one = of(book);
        argument(out(opening, 0, one.leaves));
        return one.strains().get(opening);
    }

    int worst(int book) {
        List<Integer> strains = of(book).strains();
        return strains.indexOf(Collections.max(strains));
    }

    int opens(int book, int bound) {
        ModelBook one = of(book);
        argument(out(bound, 0, 100000));
        return (int) one.strains().stream().filter(strain -> strain <= bound).count();
    }

    int skin(int thickness) {
        argument(out(thickness, 8, 30));
        state(skins.size() == 3);
        int[][] skin = new int[8][8];
        for (int[] row : skin) {
            java.util.Arrays.fill(row, thickness);
        }
        skins.add(skin);
        return skins.size() - 1;
    }

    int pare(int skin, int left, int right, int top, int low, int by) {
        place(out(skin, 0, skins.size() - 1));
        place(out(left, 0, 7) || out(right, left, 7) || out(top, 0, 7) || out(low, top, 7));
        argument(out(by, 1, 27));
        int[][] pared = new int[8][];
        int least = Integer.MAX_VALUE;
        for (int row = 0; row < 8; row++) {
            pared[row] = skins.get(skin)[row].clone();
            for (int column = left; column <= right && row >= top && row <= low; column++) {
                pared[row][column] -= by;
                least = Math.min(least, pared[row][column]);
            }
        }
        state(least < 3);
        skins.set(skin, pared);
        return least;
    }

    int thickAt(int skin, int column, int row) {
        place(out(skin, 0, skins.size() - 1) || out(column, 0, 7) || out(row, 0, 7));
        return skins.get(skin)[row][column];
    }

    int tooThick(int skin) {
        place(out(skin, 0, skins.size() - 1));
        int places = 0;
        for (int row = 0; row < 8; row++) {
            for (int column = 0; column < 8; column++) {
                boolean isBorder = column == 0 || column == 7 || row == 0 || row == 7;
                places += skins.get(skin)[row][column] > (isBorder ? 6 : 12) ? 1 : 0;
            }
        }
        return places;
    }

    int repair(int book, int stuff) {
        ModelBook one = of(book);
        argument(out(stuff, 0, 4));
        state(one.isOld && stuff > 2 || one.repairs.size() == 20);
        one.repairs.add(stuff);
        return one.repairs.size();
    }

    int undo(int book) {
        ModelBook one = of(book);
        state(one.repairs.isEmpty() || one.repairs.get(one.repairs.size() - 1) > 2);
        return one.repairs.remove(one.repairs.size() - 1);
    }

    int speak(int book, int from, int to, int weight) {
        ModelBook one = of(book);
        argument(out(from, 1400, 2000) || out(to, from, 2000) || out(weight, 1, 9));
        state(one.spoken == 20);
        for (int year = from; year <= to; year++) {
            one.sums[year - 1400] += weight;
        }
        one.spoken++;
        return one.spoken;
    }

    int year(int book, boolean isLast) {
        ModelBook one = of(book);
        if (one.spoken == 0) {
            return NONE;
        }
        int first = 0;
        for (int i = 1; i < one.sums.length; i++) {
            first = one.sums[i] > one.sums[first] ? i : first;
        }
        int last = first;
        while (last + 1 < one.sums.length && one.sums[last + 1] == one.sums[first]) {
            last++;
        }
        return 1400 + (isLast ? last : first);
    }

    private static final class ModelBook {
        final int gatherings;
        final int leaves;
        final int stations;
        final int thickness;
        final boolean isOld;
        final List<Integer> moves = new ArrayList<>();
        final List<Integer> repairs = new ArrayList<>();
        final int[] sums = new int[601];
        int spoken;
        int back;
        int[][] stitches;
        boolean[] links;
        int length;
        int gathering;
        int station;
        boolean inside;

        ModelBook(int gatherings, int leaves, int stations, int thickness, boolean isOld) {
            this.gatherings = gatherings;
            this.leaves = gatherings * leaves;
            this.stations = stations;
            this.thickness = thickness;
            this.isOld = isOld;
            lead();
        }

        /** Leads the thread anew through all moves; whether they can all be made. */
        boolean lead() {
            stitches = new int[gatherings][stations - 1];
            links = new boolean[gatherings];
            length = 0;
            gathering = 0;
            station = 0;
            inside = false;
            for (int move : moves) {
                if (!step(move)) {
                    return false;
                }
            }
            return true;
        }

        private boolean step(int move) {
            if (move == 0) {
                inside = !inside;
                return true;
            }
            boolean isAlong = move <= 2;
            int next = (isAlong ? station : gathering) + (move % 2 == 1 ? 1 : -1);
            if (next < 0 || next >= (isAlong ? stations : gatherings) || !isAlong && inside) {
                return false;
            }
            if (isAlong && inside) {
                stitches[gathering][Math.min(station, next)]++;
            }
            if (!isAlong) {
                links[Math.min(gathering, next)] = true;
            }
            length += isAlong ? 10 : 4;
            station = isAlong ? next : station;
            gathering = isAlong ? gathering : next;
            return true;
        }

        boolean held(int at) {
            return java.util.Arrays.stream(stitches[at]).filter(n -> n > 0).count() >= stations / 2;
        }

        boolean sewn() {
            for (int at = 0; at < gatherings; at++) {
                if (!held(at) || at + 1 < gatherings && !links[at]) {
                    return false;
                }
            }
            return !inside;
        }

        int swelling() {
            int sum = 0;
            for (int[] parts : stitches) {
                sum += java.util.Arrays.stream(parts).max().orElse(0);
            }
            return 3 * sum;
        }

        List<Integer> strains() {
            List<Integer> strains = new ArrayList<>();
            int swelling = swelling();
            for (int left = 0; left <= leaves; left++) {
                int right = leaves - left;
                strains.add((left < right ? left : right) * thickness * new int[] {4, 1, 2}[back] + swelling);
            }
            return strains;
        }
    }
}
