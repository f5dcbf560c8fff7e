/** Promises 18 to 20: the least thread, a new square's best place, washing day. */
public final class SeamsTest {
    private static final int UNKNOWN = -1, OUTSIDE = -2, NONE = -6;
    private static final int LEAST = Integer.MIN_VALUE, MOST = Integer.MAX_VALUE;
    private static final Checks checks = new Checks();

    public static void main(String[] args) {
        whole();
        wholeOfFoes();
        patch();
        wash();
        washBySizes();
        checks.end();
    }

    private static void wholeIs(QuiltHouse house, int thread, int... seams) {
        checks.due("whole(-1)", house.whole(-1), thread);
        for (int i = 0; i < seams.length; i++) {
            checks.due("whole(" + i + ")", house.whole(i), seams[i]);
        }
        int[] none = {LEAST, -6, -2, seams.length, seams.length + 1, 24, MOST};
        for (int i : none) {
            checks.due("whole(" + i + ")", house.whole(i), NONE);
        }
    }

    private static void whole() {
        checks.promise(18, "whole");
        wholeIs(Checks.laid(1, 1, "a"), 0);
        wholeIs(Checks.laid(1, 2, "ab"), 2, 1);
        wholeIs(Checks.laid(2, 1, "aa"), 1, 1);
        QuiltHouse house = Checks.laid(2, 3, "abaaab");
        wholeIs(house, 1 + 1 + 2 * 3, 3, 16 * 3 + 4, 1, 16 + 2, 16 * 2 + 5);
        house.sew(2, 5);
        checks.due("whatever is sewn", house.whole(-1), 8);
        checks.due("and it stays as it is sewn", house.told(7), 1);
        house.set(0, 9);
        house.set(1, 4);
        wholeIs(house, 4 * 4 + 9, 1, 16 + 2, 16 + 4, 16 * 2 + 5, 3);
        house.set(0, 4);
        wholeIs(house, 5 * 4, 1, 3, 16 + 2, 16 + 4, 16 * 2 + 5);
        house.set(0, 0);
        house.set(1, 0);
        wholeIs(house, 0, 1, 3, 16 + 2, 16 + 4, 16 * 2 + 5);
        checks.due("no squares", new QuiltHouse().whole(-1), NONE);
        checks.due("no squares, a seam", new QuiltHouse().whole(0), NONE);
        QuiltHouse apart = Checks.laid(3, 3, "aaa...aaa");
        checks.due("apart", apart.whole(-1), NONE);
        checks.due("apart, a seam", apart.whole(0), NONE);
        checks.due("the last seam", Checks.laid(4, 4, "aaaaaaaaaaaaaaaa").whole(14), 16 * 11 + 15);
    }

    private static void wholeOfFoes() {
        QuiltHouse house = Checks.laid(2, 2, "abab");
        house.foes(0, 1, true);
        checks.due("foes apart", house.whole(-1), NONE);
        checks.due("foes apart, a seam", house.whole(0), NONE);
        house.foes(1, 0, false);
        house.foes(0, 0, true);
        wholeIs(house, 1 + 2 + 2, 16 + 3, 1, 16 * 2 + 3);
    }

    private static void patch() {
        checks.promise(19, "patch");
        QuiltHouse house = Checks.sewn(3, 3, "aa.a.....");
        checks.due("warms two", house.patch(0, 0), 4);
        checks.due("none cold", house.patch(0, 1), 0);
        checks.due("nothing is done", house.told(3), Checks.bits(0, 1, 3));
        house.foes(0, 1, true);
        checks.due("foes: the first place", house.patch(1, 0), 2);
        checks.due("foes: all but one, and itself", house.patch(1, 1), 3);
        checks.due("others do", house.patch(2, 1), 0);
        house.foes(2, 2, true);
        checks.due("its foes are others of its own", house.patch(2, 0), 4);
        house.set(2, 0);
        checks.due("no need: the first", house.patch(3, 0), 2);
        checks.due("no need: none cold", house.patch(3, 1), 0);
        house.set(2, 4);
        checks.due("all cold: the first", house.patch(3, 0), 2);
        checks.due("all cold", house.patch(3, 1), 4);
        int[] unknown = {LEAST, -1, 4, MOST};
        int[] outside = {LEAST, -1, 2, MOST};
        for (int i = 0; i < unknown.length; i++) {
            checks.due("patch(" + unknown[i] + ", 0)", house.patch(unknown[i], 0), UNKNOWN);
            checks.due("patch(0, " + outside[i] + ")", house.patch(0, outside[i]), OUTSIDE);
            checks.due("UNKNOWN first", house.patch(unknown[i], outside[i]), UNKNOWN);
        }
        checks.due("an empty quilt: the first place", new QuiltHouse().patch(3, 0), 0);
        checks.due("an empty quilt: itself", new QuiltHouse().patch(3, 1), 1);
        QuiltHouse full = Checks.laid(1, 2, "ab");
        checks.due("no place", full.patch(0, 0), NONE);
        checks.due("no place, how many", full.patch(0, 1), NONE);
        checks.due("refused all the same", full.patch(0, 2), OUTSIDE);
    }

    private static void washIs(QuiltHouse house, int d, int seams, int part) {
        checks.due("wash(" + d + ", 0)", house.wash(d, 0), seams);
        checks.due("wash(" + d + ", 1)", house.wash(d, 1), part);
    }

    private static void wash() {
        checks.promise(20, "wash");
        washIs(new QuiltHouse(), 15, NONE, NONE);
        washIs(Checks.laid(1, 1, "a"), 15, NONE, NONE);
        washIs(Checks.sewn(1, 2, "ab"), 0, 1, 1);
        washIs(Checks.laid(1, 2, "ab"), 0, 0, 1);
        QuiltHouse square = Checks.sewn(2, 2, "abcd");
        washIs(square, 15, 2, Checks.bits(0));
        washIs(square, 0, 2, Checks.bits(0, 1));
        square.unpick(0, 1);
        washIs(square, 0, 1, Checks.bits(0, 2));
        washIs(square, 2, 1, Checks.bits(0));
        int[] outside = {LEAST, -1, 16, MOST};
        for (int d : outside) {
            checks.due("wash(" + d + ", 0)", square.wash(d, 0), OUTSIDE);
        }
        int[] noWhat = {LEAST, -1, 2, MOST};
        for (int what : noWhat) {
            checks.due("wash(0, " + what + ")", square.wash(0, what), OUTSIDE);
        }
        checks.due("it stays as it is sewn", square.told(7), 3);
    }

    private static void washBySizes() {
        QuiltHouse odd = Checks.sewn(1, 3, "abc");
        washIs(odd, 0, NONE, NONE);
        washIs(odd, 1, 1, Checks.bits(0));
        QuiltHouse late = Checks.sewn(4, 4, ".....ab..ab.....");
        washIs(late, 15, 2, Checks.bits(5));
        washIs(late, 1, 2, Checks.bits(5, 6));
        QuiltHouse loose = Checks.sewn(3, 3, "aa.aa...b");
        washIs(loose, 2, 2, Checks.bits(0, 1));
        washIs(loose, 3, 0, Checks.bits(0, 1, 3, 4));
        QuiltHouse all = Checks.sewn(4, 4, "aaaaaaaaaaaaaaaa");
        washIs(all, 15, 2, Checks.bits(0));
        washIs(all, 14, 2, Checks.bits(0));
        washIs(all, 13, 3, Checks.bits(0, 1));
        washIs(all, 0, 4, 255);
    }
}
