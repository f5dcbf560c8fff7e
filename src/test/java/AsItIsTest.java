/** Promises 14 to 17: pieces, cold squares, thread, parts. */
public final class AsItIsTest {
    private static final int UNKNOWN = -1, STATE = -3;
    private static final int LEAST = Integer.MIN_VALUE, MOST = Integer.MAX_VALUE;
    private static final Checks checks = new Checks();

    public static void main(String[] args) {
        pieces();
        cold();
        spent();
        parts();
        checks.end();
    }

    private static void pieces() {
        checks.promise(14, "pieces");
        QuiltHouse house = Checks.laid(3, 3, "aaa.b.ccc");
        checks.due("none sewn", house.pieces(-1), 7);
        checks.due("one alone", house.pieces(4), 16);
        house.sew(0, 1);
        house.sew(1, 2);
        house.sew(1, 4);
        house.sew(6, 7);
        checks.due("some sewn", house.pieces(-1), 3);
        checks.due("that of 2", house.pieces(2), Checks.bits(0, 1, 2, 4));
        checks.due("that of 7", house.pieces(7), Checks.bits(6, 7));
        checks.due("that of 8", house.pieces(8), Checks.bits(8));
        checks.due("no square", house.pieces(3), STATE);
        int[] unknown = {LEAST, -2, 9, 16, MOST};
        for (int place : unknown) {
            checks.due("pieces(" + place + ")", house.pieces(place), UNKNOWN);
        }
        checks.due("no squares", new QuiltHouse().pieces(-1), 0);
        checks.due("sixteen", Checks.laid(4, 4, "abcdabcdabcdabcd").pieces(-1), 16);
        QuiltHouse snake = Checks.sewn(4, 4, "aaaaaaaaaaaaaaaa");
        int[][] cuts = {{0, 4}, {1, 5}, {2, 6}, {5, 9}, {6, 10}, {7, 11}, {8, 12}, {9, 13}, {10, 14}};
        for (int[] cut : cuts) {
            snake.unpick(cut[0], cut[1]);
        }
        checks.due("a snake", snake.pieces(0), 65535);
        checks.due("from its end", snake.pieces(12), 65535);
        checks.due("is one piece", snake.pieces(-1), 1);
    }

    private static void cold() {
        checks.promise(15, "cold");
        QuiltHouse house = Checks.sewn(3, 3, "abcdabcda");
        int[] cold = {0, 0, 0, Checks.bits(0, 2, 6, 8), 511 & ~16};
        for (int need = 0; need <= 4; need++) {
            house.set(2, need);
            checks.due("NEED " + need, house.cold(), cold[need]);
        }
        house.set(2, 2);
        house.unpick(0, 1);
        checks.due("by sewn seams, not by neighbours", house.cold(), Checks.bits(0));
        house.unpick(1, 2);
        checks.due("more", house.cold(), Checks.bits(0, 1, 2));
        checks.due("no squares", new QuiltHouse().cold(), 0);
        QuiltHouse alone = Checks.laid(4, 4, "...............a");
        checks.due("alone", alone.cold(), 1 << 15);
        alone.set(2, 0);
        checks.due("alone, without need", alone.cold(), 0);
    }

    private static void spent() {
        checks.promise(16, "spent");
        checks.due("no squares", new QuiltHouse().spent(), 0);
        QuiltHouse house = Checks.sewn(2, 3, "aabacb");
        checks.due("kin 3, others 4", house.spent(), 3 + 4 * 2);
        house.set(0, 99);
        house.set(1, 10);
        checks.due("with other thread", house.spent(), 3 * 99 + 4 * 10);
        house.unpick(0, 1);
        checks.due("a seam of kin less", house.spent(), 2 * 99 + 4 * 10);
        house.death(4);
        checks.due("a square less", house.spent(), 2 * 99 + 10);
        house.set(0, 0);
        house.set(1, 0);
        checks.due("without thread", house.spent(), 0);
        QuiltHouse all = Checks.sewn(4, 4, "dddddddddddddddd");
        all.set(0, 99);
        checks.due("the most", all.spent(), 24 * 99);
    }

    private static void parts() {
        checks.promise(17, "parts");
        checks.due("no squares", new QuiltHouse().parts(), 0);
        checks.due("one", Checks.laid(1, 1, "a").parts(), 0);
        checks.due("two sewn", Checks.sewn(1, 2, "ab").parts(), 0);
        checks.due("two alone", Checks.laid(1, 2, "ab").parts(), 0);
        checks.due("a row", Checks.sewn(1, 4, "abcd").parts(), Checks.bits(1, 2));
        checks.due("a ring", Checks.sewn(3, 3, "aaaa.aaaa").parts(), 0);
        checks.due("a cross", Checks.sewn(3, 3, ".a.aaa.a.").parts(), 16);
        QuiltHouse pieces = Checks.sewn(3, 3, "aaa...bbb");
        checks.due("in each piece", pieces.parts(), Checks.bits(1, 7));
        pieces.unpick(0, 1);
        checks.due("by sewn seams", pieces.parts(), Checks.bits(7));
        pieces.foes(1, 1, true);
        checks.due("none", pieces.parts(), 0);
    }
}
