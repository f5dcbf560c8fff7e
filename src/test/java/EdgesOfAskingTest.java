/**
 * Promises 14 to 20, sentence by sentence: the least and the greatest that is allowed, the empty and the full,
 * of several the first. What is refused, and that it changes nothing, stands in RefusedTest.
 */
public final class EdgesOfAskingTest {
    private static final int UNKNOWN = -1, OUTSIDE = -2, STATE = -3, NONE = -6;
    private static final int LEAST = Integer.MIN_VALUE, MOST = Integer.MAX_VALUE;
    private static final String SIXTEEN = "abcdabcdabcdabcd";
    private static final String ALIKE = "aaaaaaaaaaaaaaaa";
    private static final Checks checks = new Checks();

    public static void main(String[] args) {
        piecesOfNone();
        piecesOfMany();
        cold();
        coldByNeed();
        spent();
        parts();
        partsOfPieces();
        wholeOfNone();
        wholeOfOne();
        wholeInOrder();
        wholeOfThread();
        wholeOfFoes();
        patchOfNone();
        patchOfFirst();
        patchCounts();
        washOfNone();
        washBySizes();
        washOfSeveral();
        checks.end();
    }

    private static QuiltHouse bare(int rows, int columns) {
        QuiltHouse house = new QuiltHouse();
        house.quilt(rows, columns);
        return house;
    }

    // ---- 14: "PIECES: how many (place = -1), that of a SQUARE, as bits. UNKNOWN; STATE: there is none."

    private static void piecesOfNone() {
        checks.promise(14, "pieces");
        for (int rows = 1; rows <= 4; rows++) {
            for (int columns = 1; columns <= 4; columns++) {
                QuiltHouse house = bare(rows, columns);
                int places = rows * columns;
                checks.due("no squares", house.pieces(-1), 0);
                checks.due("none at the first place", house.pieces(0), STATE);
                checks.due("none at the last place", house.pieces(places - 1), STATE);
                checks.due("behind the last place", house.pieces(places), UNKNOWN);
                checks.due("below how many", house.pieces(-2), UNKNOWN);
            }
        }
    }

    private static void piecesOfMany() {
        QuiltHouse loose = Checks.laid(4, 4, SIXTEEN);
        checks.due("sixteen alone", loose.pieces(-1), 16);
        QuiltHouse sewn = Checks.sewn(4, 4, SIXTEEN);
        checks.due("sixteen together", sewn.pieces(-1), 1);
        for (int place = 0; place < 16; place++) {
            checks.due("alone at " + place, loose.pieces(place), 1 << place);
            checks.due("together at " + place, sewn.pieces(place), 65535);
        }
        QuiltHouse corner = Checks.laid(4, 4, "...............d");
        checks.due("one, at the last place", corner.pieces(-1), 1);
        checks.due("as bits", corner.pieces(15), 32768);
        corner.death(15);
        checks.due("none any more", corner.pieces(-1), 0);
        checks.due("nor there", corner.pieces(15), STATE);
        QuiltHouse two = Checks.laid(1, 2, "aa");
        checks.due("two side by side, not sewn", two.pieces(-1), 2);
        two.sew(1, 0);
        checks.due("sewn", two.pieces(-1), 1);
        checks.due("that of the first", two.pieces(0), 3);
        two.unpick(0, 1);
        checks.due("unpicked", two.pieces(0), 1);
    }

    // ---- 15: "COLD, as bits", "if fewer than NEED (0 to 4) of its SEAMS are SEWN"

    private static void cold() {
        checks.promise(15, "cold");
        QuiltHouse none = new QuiltHouse();
        none.set(2, 4);
        checks.due("no squares", none.cold(), 0);
        QuiltHouse loose = Checks.laid(4, 4, SIXTEEN);
        checks.due("none sewn", loose.cold(), 65535);
        loose.set(2, 0);
        checks.due("none sewn, no need", loose.cold(), 0);
        QuiltHouse sewn = Checks.sewn(4, 4, SIXTEEN);
        sewn.set(2, 4);
        checks.due("all sewn: the four amid all are warm", sewn.cold(), 65535 - Checks.bits(5, 6, 9, 10));
        sewn.unpick(9, 10);
        checks.due("a seam less", sewn.cold(), 65535 - Checks.bits(5, 6));
    }

    /** As many seams as NEED are enough, one less is not. */
    private static void coldByNeed() {
        int[] arms = {1, 3, 5, 7};
        QuiltHouse house = Checks.laid(3, 3, "aaaaaaaaa");
        for (int seams = 0; seams <= 4; seams++) {
            for (int need = 0; need <= 4; need++) {
                house.set(2, need);
                int due = seams < need ? 16 : 0;
                checks.due(seams + " seams, NEED " + need, house.cold() & 16, due);
            }
            if (seams < 4) {
                house.sew(4, arms[seams]);
            }
        }
    }

    // ---- 16: "THREAD of all SEWN SEAMS"; KIN and OTHER 0 to 99

    private static void spent() {
        checks.promise(16, "spent");
        checks.due("no squares", new QuiltHouse().spent(), 0);
        QuiltHouse house = Checks.laid(1, 3, "aab");
        checks.due("none sewn", house.spent(), 0);
        house.sew(0, 1);
        checks.due("KIN as at first", house.spent(), 1);
        house.sew(1, 2);
        checks.due("OTHER as at first", house.spent(), 3);
        house.unpick(0, 1);
        checks.due("OTHER alone", house.spent(), 2);
        house.unpick(1, 2);
        checks.due("none any more", house.spent(), 0);
        QuiltHouse kin = Checks.sewn(4, 4, ALIKE);
        kin.set(1, 99);
        checks.due("24 of kin, at first", kin.spent(), 24);
        kin.set(0, 99);
        checks.due("24 of kin, the most", kin.spent(), 2376);
        kin.set(0, 0);
        checks.due("24 of kin, no thread", kin.spent(), 0);
        QuiltHouse others = Checks.sewn(4, 4, "ababbabaababbaba");
        others.set(0, 99);
        checks.due("24 of others, at first", others.spent(), 48);
        others.set(1, 99);
        checks.due("24 of others, the most", others.spent(), 2376);
        others.set(1, 0);
        checks.due("24 of others, no thread", others.spent(), 0);
    }

    // ---- 17: "SQUARES without which (each alone, its SEAMS unpicked) the others are more PIECES than all are now"

    private static void parts() {
        checks.promise(17, "parts");
        checks.due("no squares", new QuiltHouse().parts(), 0);
        checks.due("the only one", Checks.laid(1, 1, "a").parts(), 0);
        checks.due("alone: fewer pieces without it", Checks.laid(4, 4, SIXTEEN).parts(), 0);
        checks.due("an end: as many pieces without it", Checks.sewn(1, 2, "ab").parts(), 0);
        checks.due("amid two: one piece more", Checks.sewn(1, 3, "abc").parts(), 2);
        checks.due("at the first place", Checks.sewn(2, 2, "aaa.").parts(), 1);
        checks.due("amid three: two more", Checks.sewn(2, 3, "aaa.a.").parts(), 2);
        checks.due("amid four: three more", Checks.sewn(3, 3, ".a.aaa.a.").parts(), 16);
        checks.due("a full quilt", Checks.sewn(4, 4, SIXTEEN).parts(), 0);
        checks.due("a column", Checks.sewn(4, 1, "abcd").parts(), 6);
        checks.due("in the last row", Checks.sewn(4, 4, ".............aaa").parts(), 1 << 14);
        QuiltHouse corner = Checks.sewn(4, 4, "..............aa");
        corner.birth(11, 0);
        checks.due("at the last place", corner.parts(), 1 << 15);
    }

    private static void partsOfPieces() {
        QuiltHouse house = Checks.sewn(3, 3, "aaa...aaa");
        checks.due("of two pieces, in each", house.parts(), Checks.bits(1, 7));
        house.unpick(0, 1);
        checks.due("of three pieces, in one", house.parts(), Checks.bits(7));
        QuiltHouse ring = Checks.sewn(2, 2, "abcd");
        checks.due("a ring", ring.parts(), 0);
        ring.unpick(0, 1);
        checks.due("a ring that was opened", ring.parts(), Checks.bits(2, 3));
        ring.sew(0, 1);
        checks.due("and closed", ring.parts(), 0);
        checks.due("all stay", ring.told(3), 15);
        checks.due("all stay sewn", ring.told(7), 4);
    }

    // ---- 18: "THREAD (i = -1), the i-th SEAM; NONE: it can not be, or there is no such SEAM (i below -1, too)"

    private static void wholeIs(String name, QuiltHouse house, int thread, int... seams) {
        checks.due(name + ", thread", house.whole(-1), thread);
        for (int i = 0; i < seams.length; i++) {
            checks.due(name + ", seam " + i, house.whole(i), seams[i]);
        }
        for (int i : new int[] {seams.length, seams.length + 1, 24, MOST, -2, -3, -6, LEAST}) {
            checks.due(name + ", no seam " + i, house.whole(i), NONE);
        }
    }

    private static void wholeCanNotBe(String name, QuiltHouse house) {
        for (int i : new int[] {LEAST, -2, -1, 0, 1, 2, 15, MOST}) {
            checks.due(name + ", whole(" + i + ")", house.whole(i), NONE);
        }
    }

    private static void wholeOfNone() {
        checks.promise(18, "whole");
        wholeCanNotBe("no squares", new QuiltHouse());
        wholeCanNotBe("no squares at one place", bare(1, 1));
        wholeCanNotBe("two apart", Checks.laid(1, 3, "a.a"));
        wholeCanNotBe("two at a corner", Checks.laid(2, 2, "a..a"));
        wholeCanNotBe("at a row's end and the next one's start", Checks.laid(2, 2, ".aa."));
        wholeCanNotBe("a pair and one", Checks.laid(1, 4, "aa.a"));
        QuiltHouse gone = Checks.laid(1, 1, "a");
        gone.death(0);
        wholeCanNotBe("none any more", gone);
    }

    private static void wholeOfOne() {
        wholeIs("one", Checks.laid(1, 1, "a"), 0);
        wholeIs("one at the last place", Checks.laid(4, 4, "...............a"), 0);
        wholeIs("the first two", Checks.laid(4, 4, "aa.............."), 1, 1);
        wholeIs("the last two", Checks.laid(4, 4, "..............ab"), 2, 16 * 14 + 15);
        wholeIs("the last two of a column", Checks.laid(4, 4, "...........a...a"), 1, 16 * 11 + 15);
    }

    private static void wholeInOrder() {
        wholeIs("by lesser places, then greater", Checks.laid(2, 2, "aaaa"), 3, 1, 2, 16 + 3);
        wholeIs("least thread ahead of lesser places", Checks.laid(2, 2, "abbb"), 4, 16 + 3, 32 + 3, 1);
        int[][] seams = {{0, 1}, {0, 4}, {1, 2}, {1, 5}, {2, 3}, {2, 6}, {3, 7}, {4, 8}, {5, 9}, {6, 10}, {7, 11},
            {8, 12}, {9, 13}, {10, 14}, {11, 15}};
        int[] want = new int[seams.length];
        for (int i = 0; i < seams.length; i++) {
            want[i] = 16 * seams[i][0] + seams[i][1];
        }
        QuiltHouse house = Checks.laid(4, 4, ALIKE);
        wholeIs("sixteen", house, 15, want);
        QuiltHouse sewn = Checks.sewn(4, 4, ALIKE);
        wholeIs("whatever is sewn", sewn, 15, want);
        checks.due("that stays sewn", sewn.told(7), 24);
        checks.due("nothing is sewn by asking", house.told(7), 0);
    }

    private static void wholeOfThread() {
        QuiltHouse house = Checks.laid(2, 2, "abbb");
        house.set(0, 2);
        wholeIs("KIN as OTHER", house, 6, 1, 2, 16 + 3);
        house.set(0, 3);
        wholeIs("KIN above OTHER", house, 7, 1, 2, 16 + 3);
        house.set(0, 99);
        house.set(1, 99);
        wholeIs("the most", house, 297, 1, 2, 16 + 3);
        house.set(1, 98);
        wholeIs("OTHER one below", house, 98 + 98 + 99, 1, 2, 16 + 3);
        house.set(1, 99);
        house.set(0, 98);
        wholeIs("KIN one below", house, 98 + 98 + 99, 16 + 3, 32 + 3, 1);
        house.set(0, 0);
        house.set(1, 0);
        wholeIs("no thread", house, 0, 1, 2, 16 + 3);
    }

    private static void wholeOfFoes() {
        QuiltHouse house = Checks.laid(2, 2, "abba");
        house.foes(0, 1, true);
        wholeCanNotBe("foes all around", house);
        QuiltHouse one = Checks.laid(2, 2, "abbb");
        one.foes(0, 1, true);
        wholeCanNotBe("one among foes", one);
        one.death(0);
        wholeIs("without it", one, 2, 16 + 3, 32 + 3);
        QuiltHouse own = Checks.laid(2, 2, "aabc");
        own.foes(0, 0, true);
        wholeIs("foes of their own go round", own, 6, 2, 16 + 3, 32 + 3);
        own.foes(0, 0, false);
        wholeIs("friends again", own, 5, 1, 2, 16 + 3);
        QuiltHouse alone = Checks.laid(1, 1, "a");
        alone.foes(0, 0, true);
        wholeIs("a foe of its own, alone", alone, 0);
    }

    // ---- 19: "the PLACE (what = 0), how many are COLD then (1); NONE: there is no PLACE. UNKNOWN; OUTSIDE."

    private static void patchIs(String name, QuiltHouse house, int family, int place, int cold) {
        checks.due(name + ", place", house.patch(family, 0), place);
        checks.due(name + ", cold", house.patch(family, 1), cold);
    }

    private static void patchOfNone() {
        checks.promise(19, "patch");
        for (int family = 0; family < 4; family++) {
            patchIs("one place, taken", Checks.laid(1, 1, "a"), family, NONE, NONE);
            patchIs("sixteen, taken", Checks.laid(4, 4, SIXTEEN), family, NONE, NONE);
        }
        QuiltHouse full = Checks.laid(2, 2, "abcd");
        checks.due("UNKNOWN, full", full.patch(4, 0), UNKNOWN);
        checks.due("UNKNOWN ahead of OUTSIDE, full", full.patch(-1, 2), UNKNOWN);
        checks.due("OUTSIDE, full", full.patch(3, 2), OUTSIDE);
        checks.due("OUTSIDE below, full", full.patch(0, -1), OUTSIDE);
        full.death(3);
        patchIs("one place is free again", full, 0, 3, 4 - 1);
    }

    private static void patchOfFirst() {
        QuiltHouse bare = bare(4, 4);
        patchIs("an empty quilt", bare, 3, 0, 1);
        bare.set(2, 0);
        patchIs("an empty quilt, no need", bare, 3, 0, 0);
        patchIs("one place", bare(1, 1), 0, 0, 1);
        QuiltHouse last = Checks.sewn(4, 4, "aaaaaaaaaaaaaaa.");
        patchIs("the last place", last, 0, 15, 0);
        last.set(2, 0);
        patchIs("the last place, no need", last, 0, 15, 0);
        QuiltHouse corners = Checks.sewn(3, 3, ".a.aaa.a.");
        patchIs("four corners are alike: the first", corners, 0, 0, 2);
        corners.birth(0, 0);
        patchIs("one warms two: though it is the last", corners, 0, 8, 0);
        QuiltHouse late = Checks.laid(3, 3, "......a..");
        patchIs("as many everywhere: the first, though far", late, 0, 0, 2);
        late.set(2, 1);
        patchIs("only beside it both are warm: the first there", late, 0, 3, 0);
    }

    /** The new square counts, and so do those whom it warms, and foes do neither. */
    private static void patchCounts() {
        QuiltHouse house = Checks.sewn(2, 2, "aaa.");
        checks.due("two cold ahead of it", house.cold(), Checks.bits(1, 2));
        patchIs("none then", house, 0, 3, 0);
        house.foes(0, 1, true);
        patchIs("a foe is cold, too", house, 1, 3, 3);
        patchIs("another is not", house, 2, 3, 0);
        house.foes(3, 3, true);
        patchIs("nor a foe of its own, where none lie", house, 3, 3, 0);
        house.foes(0, 0, true);
        patchIs("foes all around", house, 0, 3, 4);
        QuiltHouse loose = Checks.laid(1, 3, "aa.");
        loose.set(2, 1);
        patchIs("only the new one is sewn", loose, 0, 2, 1);
        loose.set(2, 4);
        patchIs("the most need", loose, 0, 2, 3);
        checks.due("nobody was born", loose.told(3), 3);
        checks.due("nothing was sewn", loose.told(7), 0);
    }

    // ---- 20: "SEAMS between (what = 0), the part of the least SQUARE, as bits (1); NONE: by none. OUTSIDE."

    private static void washIs(String name, QuiltHouse house, int d, int seams, int part) {
        checks.due(name + ", seams", house.wash(d, 0), seams);
        checks.due(name + ", part", house.wash(d, 1), part);
    }

    private static void washOfNone() {
        checks.promise(20, "wash");
        for (int d : new int[] {0, 1, 15}) {
            washIs("no squares", bare(4, 4), d, NONE, NONE);
            washIs("one: the other part would be empty", Checks.laid(1, 1, "a"), d, NONE, NONE);
            washIs("one at the last place", Checks.laid(4, 4, "...............a"), d, NONE, NONE);
            washIs("two", Checks.laid(1, 2, "aa"), d, 0, 1);
            washIs("two sewn", Checks.sewn(1, 2, "aa"), d, 1, 1);
            washIs("the last two", Checks.sewn(4, 4, "..............aa"), d, 1, 1 << 14);
        }
        for (int what : new int[] {LEAST, -1, 2, MOST}) {
            checks.due("OUTSIDE, where there is none", new QuiltHouse().wash(0, what), OUTSIDE);
        }
        for (int d : new int[] {LEAST, -1, 16, MOST}) {
            checks.due("OUTSIDE, where there is none", new QuiltHouse().wash(d, 0), OUTSIDE);
        }
    }

    private static void washBySizes() {
        for (int squares = 3; squares <= 15; squares += 2) {
            String text = "a".repeat(squares) + ".".repeat(16 - squares);
            washIs(squares + " are not halved", Checks.laid(4, 4, text), 0, NONE, NONE);
            int half = (1 << squares / 2) - 1;
            washIs(squares + " are nearly halved", Checks.laid(4, 4, text), 1, 0, half);
        }
        QuiltHouse sixteen = Checks.laid(4, 4, ALIKE);
        for (int d = 0; d <= 15; d++) {
            int least = (16 - d + 1) / 2;
            washIs("sixteen loose, unlike by " + d, sixteen, d, 0, (1 << least) - 1);
        }
        QuiltHouse row = Checks.sewn(1, 4, "aaaa");
        row.unpick(0, 1);
        washIs("unlike by two is two at most", row, 2, 0, 1);
        washIs("unlike by two is not one at most", row, 1, 1, 3);
        washIs("unlike by two is not none", row, 0, 1, 3);
        QuiltHouse many = Checks.sewn(1, 4, "aaaa");
        many.unpick(2, 3);
        washIs("the greater part can be that of the least", many, 2, 0, 7);
        washIs("though not when they are alike", many, 1, 1, 3);
    }

    private static void washOfSeveral() {
        QuiltHouse ring = Checks.sewn(2, 2, "aaaa");
        washIs("two seams wherever: least as bits", ring, 15, 2, 1);
        washIs("two and two, not by a corner", ring, 0, 2, 3);
        QuiltHouse cross = Checks.sewn(3, 3, ".a.aaa.a.");
        washIs("one arm: that of the least square", cross, 15, 1, 2);
        washIs("one arm, unlike by three", cross, 3, 1, 2);
        washIs("two arms, unlike by one", cross, 1, 2, Checks.bits(1, 3));
        QuiltHouse pieces = Checks.sewn(3, 3, "a.aa.aa.a");
        washIs("pieces stay as they are", pieces, 0, 0, Checks.bits(0, 3, 6));
        QuiltHouse ringed = Checks.sewn(3, 3, "aaaaaaaaa");
        for (int arm : new int[] {1, 3, 5, 7}) {
            ringed.unpick(4, arm);
        }
        washIs("the part of the least square, though the other is less as bits", ringed, 15, 0, 511 - 16);
        washIs("likewise, unlike by seven", ringed, 7, 0, 511 - 16);
        washIs("not unlike by seven", ringed, 6, 2, 3);
        QuiltHouse columns = Checks.laid(2, 3, "aaaaaa");
        columns.sew(0, 3);
        columns.sew(1, 4);
        columns.sew(2, 5);
        washIs("the first column", columns, 2, 0, Checks.bits(0, 3));
        washIs("a column and a half", columns, 0, 1, Checks.bits(0, 1, 3));
        QuiltHouse late = Checks.sewn(4, 4, "aaaa........bbbb");
        washIs("rows apart", late, 15, 0, 15);
        checks.due("all stays sewn", late.told(7), 6);
    }
}
