/** Promises 22 to 25: skins. */
final class SkinTest {
    private static final Checks.Setup TWO_SKINS = bench -> {
        bench.skin(8);
        bench.skin(14);
        bench.pare(1, 2, 3, 4, 5, 9);
    };
    private static final Checks.Setup ALL_SKINS = bench -> {
        bench.skin(8);
        bench.skin(20);
        bench.skin(30);
    };

    private SkinTest() {
    }

    static void run(Checks checks) {
        skins(checks);
        skinRefused(checks);
        pared(checks);
        paredToTheLeast(checks);
        pareRefusedPlaces(checks);
        pareRefused(checks);
        thickRefused(checks);
        tooThickPlaces(checks);
    }

    private static void skins(Checks checks) {
        MarbleBench bench = new MarbleBench();
        int[] thicknesses = {8, 19, 30};
        for (int skin = 0; skin < 3; skin++) {
            checks.due("skin", skin, bench.skin(thicknesses[skin]));
        }
        for (int skin = 0; skin < 3; skin++) {
            for (int place = 0; place < 64; place++) {
                int got = bench.thickAt(skin, place % 8, place / 8);
                checks.due("thickness of skin " + skin, thicknesses[skin], got);
            }
        }
    }

    private static void skinRefused(Checks checks) {
        for (int wrong : new int[] {7, 0, -1, 31, Integer.MIN_VALUE, Integer.MAX_VALUE}) {
            checks.refuses("skin of " + wrong, Checks.ARGUMENT, TWO_SKINS, b -> b.skin(wrong));
            checks.refuses("thickness before a fourth skin", Checks.ARGUMENT, ALL_SKINS, b -> b.skin(wrong));
        }
        checks.refuses("a fourth skin", Checks.STATE, ALL_SKINS, b -> b.skin(8));
    }

    private static void pared(Checks checks) {
        MarbleBench bench = new MarbleBench();
        bench.skin(20);
        bench.skin(20);
        checks.due("pare a part", 15, bench.pare(0, 1, 3, 4, 7, 5));
        checks.due("pare across it", 13, bench.pare(0, 3, 6, 7, 7, 2));
        for (int place = 0; place < 64; place++) {
            int column = place % 8;
            int row = place / 8;
            int first = column >= 1 && column <= 3 && row >= 4 ? 5 : 0;
            int second = column >= 3 && column <= 6 && row == 7 ? 2 : 0;
            String where = "column " + column + ", row " + row;
            checks.due("pared at " + where, 20 - first - second, bench.thickAt(0, column, row));
            checks.due("the other skin at " + where, 20, bench.thickAt(1, column, row));
        }
        checks.due("pare one place", 19, bench.pare(0, 7, 7, 0, 0, 1));
        checks.due("pare all", 12, bench.pare(0, 0, 7, 0, 7, 1));
    }

    private static void paredToTheLeast(Checks checks) {
        MarbleBench bench = Checks.made(ALL_SKINS);
        checks.due("by 27 to 3", 3, bench.pare(2, 0, 7, 0, 7, 27));
        checks.due("thickness then", 3, bench.thickAt(2, 7, 7));
        checks.due("by 5 to 3", 3, bench.pare(0, 4, 4, 4, 4, 5));
        Checks.Setup oneThin = b -> {
            b.skin(10);
            b.pare(0, 5, 5, 6, 6, 4);
        };
        checks.refuses("one place comes below 3", Checks.STATE, oneThin, b -> b.pare(0, 0, 7, 0, 7, 4));
        checks.due("all come to 3 at least", 3, Checks.made(oneThin).pare(0, 0, 7, 0, 7, 3));
        checks.due("beside the thin place", 3, Checks.made(oneThin).pare(0, 0, 7, 0, 5, 7));
        checks.refuses("below 3", Checks.STATE, ALL_SKINS, b -> b.pare(0, 0, 0, 0, 0, 6));
        checks.refuses("far below 3", Checks.STATE, ALL_SKINS, b -> b.pare(0, 0, 7, 0, 7, 27));
    }

    private static void pareRefusedPlaces(Checks checks) {
        for (int wrong : new int[] {-1, 2, 3, Integer.MIN_VALUE, Integer.MAX_VALUE}) {
            checks.refuses("pare skin " + wrong, Checks.PLACE, TWO_SKINS, b -> b.pare(wrong, 0, 0, 0, 0, 1));
            checks.refuses("pare skin before by", Checks.PLACE, TWO_SKINS, b -> b.pare(wrong, 0, 0, 0, 0, 0));
        }
        for (int wrong : new int[] {-1, 8, Integer.MIN_VALUE, Integer.MAX_VALUE}) {
            checks.refuses("pare left " + wrong, Checks.PLACE, TWO_SKINS, b -> b.pare(0, wrong, 7, 0, 7, 1));
            checks.refuses("pare right " + wrong, Checks.PLACE, TWO_SKINS, b -> b.pare(0, 0, wrong, 0, 7, 1));
            checks.refuses("pare top " + wrong, Checks.PLACE, TWO_SKINS, b -> b.pare(0, 0, 7, wrong, 7, 1));
            checks.refuses("pare low " + wrong, Checks.PLACE, TWO_SKINS, b -> b.pare(0, 0, 7, 0, wrong, 1));
            checks.refuses("pare place before by", Checks.PLACE, TWO_SKINS, b -> b.pare(0, 0, 7, 0, wrong, 28));
            checks.refuses("pare both beyond", Checks.PLACE, TWO_SKINS, b -> b.pare(0, wrong, wrong, 0, 0, 1));
        }
        checks.refuses("pare right below left", Checks.PLACE, TWO_SKINS, b -> b.pare(0, 4, 3, 0, 7, 1));
        checks.refuses("pare low below top", Checks.PLACE, TWO_SKINS, b -> b.pare(0, 0, 7, 4, 3, 1));
        checks.refuses("pare right below left before by", Checks.PLACE, TWO_SKINS, b -> b.pare(0, 7, 0, 0, 7, 0));
    }

    private static void pareRefused(Checks checks) {
        for (int wrong : new int[] {0, -1, 28, Integer.MIN_VALUE, Integer.MAX_VALUE}) {
            checks.refuses("pare by " + wrong, Checks.ARGUMENT, TWO_SKINS, b -> b.pare(0, 0, 7, 0, 7, wrong));
        }
    }

    private static void thickRefused(Checks checks) {
        for (int wrong : new int[] {-1, 2, 3, Integer.MIN_VALUE, Integer.MAX_VALUE}) {
            checks.refuses("thickAt skin " + wrong, Checks.PLACE, TWO_SKINS, b -> b.thickAt(wrong, 0, 0));
            checks.refuses("tooThick skin " + wrong, Checks.PLACE, TWO_SKINS, b -> b.tooThick(wrong));
        }
        for (int wrong : new int[] {-1, 8, Integer.MIN_VALUE, Integer.MAX_VALUE}) {
            checks.refuses("thickAt column " + wrong, Checks.PLACE, TWO_SKINS, b -> b.thickAt(0, wrong, 0));
            checks.refuses("thickAt row " + wrong, Checks.PLACE, TWO_SKINS, b -> b.thickAt(0, 0, wrong));
        }
        checks.refuses("thickAt beyond all skins", Checks.PLACE, ALL_SKINS, b -> b.thickAt(3, 0, 0));
    }

    private static void tooThickPlaces(Checks checks) {
        MarbleBench bench = Checks.made(ALL_SKINS);
        checks.due("8: the border", 28, bench.tooThick(0));
        checks.due("20: all", 64, bench.tooThick(1));
        bench.pare(1, 1, 6, 1, 6, 8);
        checks.due("12 inside is good", 28, bench.tooThick(1));
        bench.pare(1, 0, 7, 0, 0, 13);
        checks.due("7 at the border is not", 28, bench.tooThick(1));
        bench.pare(1, 0, 7, 0, 0, 1);
        checks.due("6 is", 20, bench.tooThick(1));
        bench.pare(1, 0, 0, 1, 7, 14);
        checks.due("left", 13, bench.tooThick(1));
        bench.pare(1, 7, 7, 1, 7, 14);
        checks.due("right", 6, bench.tooThick(1));
        bench.pare(1, 1, 6, 7, 7, 14);
        checks.due("below", 0, bench.tooThick(1));
        bench.pare(2, 1, 6, 1, 6, 17);
        checks.due("13 inside is too thick", 64, bench.tooThick(2));
        bench.pare(2, 1, 1, 1, 1, 1);
        checks.due("12 at one place", 63, bench.tooThick(2));
    }
}
