/** Promises 21 to 29: placings, growing, turning, draws, images, what is told. */
public final class PlacingsTest {
    private static final int UNKNOWN = -1, OUTSIDE = -2, STATE = -3, FULL = -4, NONE = -6;
    private static final int LEAST = Integer.MIN_VALUE, MOST = Integer.MAX_VALUE;
    private static final Checks checks = new Checks();

    public static void main(String[] args) {
        placings();
        placingsOfFoes();
        placingsRefused();
        placed();
        placedRefused();
        grown();
        could();
        turn();
        turnKeepsAllElse();
        years();
        image();
        restore();
        told();
        checks.end();
    }

    private static QuiltHouse bare(int rows, int columns, int need) {
        QuiltHouse house = new QuiltHouse();
        house.quilt(rows, columns);
        house.set(2, need);
        return house;
    }

    private static void placings() {
        checks.promise(21, "placings");
        checks.due("two of four, need 1", bare(2, 2, 1).placings(1, 1, 0, 0), 8);
        checks.due("nobody", bare(3, 3, 4).placings(0, 0, 0, 0), 1);
        QuiltHouse house = bare(3, 3, 0);
        checks.due("one of each and one more", house.placings(1, 1, 2, 1), 9 * 8 * 7 * 6 / 2 * 5);
        checks.due("two of each", house.placings(2, 2, 2, 2), 22680);
        checks.due("eight of one", house.placings(0, 0, 0, 8), 9);
        QuiltHouse warm = bare(3, 3, 2);
        checks.due("a ring or a block of four", warm.placings(4, 0, 0, 0), 4);
        checks.due("of two families", warm.placings(3, 0, 0, 1), 16);
        checks.due("eight: the corners or the middle empty", warm.placings(0, 8, 0, 0), 5);
        checks.due("need 3", bare(3, 3, 3).placings(0, 8, 0, 0), 0);
        checks.due("in one row", bare(1, 4, 1).placings(2, 0, 0, 0), 3);
        checks.due("in one column", bare(4, 1, 1).placings(1, 0, 1, 0), 6);
        checks.due("more than places", bare(2, 2, 0).placings(5, 0, 0, 0), 0);
        checks.due("as many as places", bare(2, 2, 2).placings(1, 1, 1, 1), 24);
        checks.due("one in need", bare(1, 1, 1).placings(1, 0, 0, 0), 0);
        QuiltHouse lain = Checks.sewn(2, 2, "abcd");
        checks.due("as if the quilt were empty", lain.placings(2, 2, 0, 0), 6);
        checks.due("nothing is done", lain.told(3), 15);
    }

    private static void placingsOfFoes() {
        QuiltHouse house = bare(2, 2, 0);
        house.foes(0, 1, true);
        checks.due("foes across", house.placings(1, 1, 0, 0), 4);
        checks.due("foes and another", house.placings(1, 1, 1, 0), 8);
        house.foes(2, 2, true);
        checks.due("foes of their own", house.placings(0, 0, 2, 0), 2);
        checks.due("not with others", house.placings(0, 0, 1, 3), 4);
        QuiltHouse row = bare(2, 3, 0);
        row.foes(3, 3, true);
        checks.due("a row's end is not beside the next one's start", row.placings(0, 0, 0, 3), 2);
    }

    private static void placingsRefused() {
        int[] outside = {LEAST, -1, 9, MOST};
        QuiltHouse house = bare(3, 3, 0);
        QuiltHouse large = bare(3, 4, 0);
        for (int n : outside) {
            checks.due("a " + n, house.placings(n, 0, 0, 0), OUTSIDE);
            checks.due("b " + n, house.placings(0, n, 0, 0), OUTSIDE);
            checks.due("c " + n, house.placings(0, 0, n, 0), OUTSIDE);
            checks.due("d " + n, house.placings(0, 0, 0, n), OUTSIDE);
            checks.due("OUTSIDE ahead of FULL", large.placings(n, 0, 0, 0), OUTSIDE);
        }
        checks.due("nine together", house.placings(3, 3, 3, 0), OUTSIDE);
        checks.due("eight each", house.placings(8, 8, 8, 8), OUTSIDE);
        checks.due("a sum that wraps", house.placings(1 << 30, 1 << 30, 1 << 30, 1 << 30), OUTSIDE);
        checks.due("one less, one more", house.placings(9, -1, 0, 0), OUTSIDE);
        int[][] oneIsOut = {{-1, 2, 0, 0}, {2, -1, 0, 0}, {0, 2, -1, 0}, {0, 0, 2, -1}, {-1, 0, 0, 2}};
        for (int[] crowd : oneIsOut) {
            int got = house.placings(crowd[0], crowd[1], crowd[2], crowd[3]);
            checks.due("less than none, though the sum is fine", got, OUTSIDE);
            got = house.placed(crowd[0], crowd[1], crowd[2], crowd[3], 0);
            checks.due("placed, likewise", got, OUTSIDE);
        }
        checks.due("twelve places", large.placings(0, 0, 0, 0), FULL);
        checks.due("eight places", bare(2, 4, 0).placings(1, 0, 0, 0), 8);
    }

    private static void placedAre(QuiltHouse house, int[] crowd, int... families) {
        for (int place = 0; place < families.length; place++) {
            int got = house.placed(crowd[0], crowd[1], crowd[2], crowd[3], place);
            checks.due("placed(.., " + place + ")", got, families[place]);
        }
    }

    private static void placed() {
        checks.promise(22, "placed");
        placedAre(bare(2, 2, 0), new int[] {1, 1, 0, 0}, NONE, NONE, 0, 1);
        placedAre(bare(2, 2, 0), new int[] {0, 1, 1, 2}, 1, 2, 3, 3);
        placedAre(bare(2, 2, 0), new int[] {0, 0, 0, 0}, NONE, NONE, NONE, NONE);
        placedAre(bare(2, 2, 0), new int[] {5, 0, 0, 0}, NONE, NONE, NONE, NONE);
        placedAre(bare(3, 3, 2), new int[] {1, 1, 1, 1}, NONE, NONE, NONE, NONE, 0, 1, NONE, 2, 3);
        placedAre(bare(3, 3, 2), new int[] {8, 0, 0, 0}, NONE, 0, 0, 0, 0, 0, 0, 0, 0);
        placedAre(bare(1, 4, 2), new int[] {4, 0, 0, 0}, NONE, NONE, NONE, NONE);
        QuiltHouse house = bare(2, 3, 0);
        house.foes(0, 1, true);
        // Four sleepers on six places: only the middle column parts them.
        placedAre(house, new int[] {2, 2, 0, 0}, 0, NONE, 1, 0, NONE, 1);
        house.foes(1, 0, false);
        house.foes(0, 0, true);
        placedAre(house, new int[] {3, 0, 0, 0}, NONE, 0, NONE, 0, NONE, 0);
        placedAre(house, new int[] {3, 0, 1, 0}, NONE, 0, NONE, 0, 2, 0);
        house.set(2, 1);
        placedAre(house, new int[] {1, 1, 0, 0}, NONE, NONE, NONE, NONE, 0, 1);
        placedAre(Checks.sewn(2, 2, "abcd"), new int[] {0, 0, 2, 2}, 2, 2, 3, 3);
    }

    private static void placedRefused() {
        QuiltHouse house = bare(2, 2, 0);
        QuiltHouse large = bare(3, 4, 0);
        int[] unknown = {LEAST, -1, 4, 9, MOST};
        int[] outside = {LEAST, -1, 9, MOST};
        for (int place : unknown) {
            checks.due("at " + place, house.placed(1, 0, 0, 0, place), UNKNOWN);
        }
        for (int n : outside) {
            checks.due("a " + n, house.placed(n, 0, 0, 0, 0), OUTSIDE);
            checks.due("b " + n, house.placed(0, n, 0, 0, 0), OUTSIDE);
            checks.due("c " + n, house.placed(0, 0, n, 0, 0), OUTSIDE);
            checks.due("d " + n, house.placed(0, 0, 0, n, 0), OUTSIDE);
            checks.due("UNKNOWN ahead of OUTSIDE", house.placed(n, 0, 0, 0, 4), UNKNOWN);
            checks.due("OUTSIDE ahead of FULL", large.placed(0, n, 0, 0, 0), OUTSIDE);
        }
        checks.due("nine together", house.placed(4, 5, 0, 0, 0), OUTSIDE);
        checks.due("twelve places", large.placed(1, 0, 0, 0, 11), FULL);
        checks.due("UNKNOWN ahead of FULL", large.placed(1, 0, 0, 0, 12), UNKNOWN);
    }

    private static void grown() {
        checks.promise(23, "grown");
        checks.due("no squares", new QuiltHouse().grown(), 0);
        checks.due("one", Checks.laid(4, 4, "...............a").grown(), 1);
        checks.due("two", Checks.sewn(1, 2, "ab").grown(), 2);
        checks.due("two alone", Checks.laid(1, 2, "ab").grown(), 0);
        checks.due("a row", Checks.sewn(1, 4, "abcd").grown(), 8);
        checks.due("a cross", Checks.sewn(3, 3, ".a.aaa.a.").grown(), 24 + 4 * 6);
        QuiltHouse square = Checks.sewn(2, 2, "abcd");
        checks.due("a ring of four", square.grown(), 16);
        square.unpick(0, 1);
        checks.due("by sewn seams", square.grown(), 8);
        QuiltHouse all = Checks.sewn(4, 4, "abcdabcdabcdabcd");
        long most = all.grown();
        checks.fine("all sixteen: more than an int holds", most > MOST);
        checks.due("all sixteen, asked again", all.grown(), most);
        checks.due("all sixteen", most, PlainQuilt.ofGrid(4, 4).grown());
        all.quilt(2, 2);
        checks.due("a bare one after that", all.grown(), 0);
        all.birth(0, 0);
        all.birth(1, 0);
        all.birth(2, 0);
        checks.due("a smaller one after that", all.grown(), 4);
    }

    private static void could() {
        checks.promise(24, "could");
        couldBe(new QuiltHouse(), 0, 0);
        couldBe(Checks.laid(2, 2, "..a."), 4, 4);
        couldBe(Checks.sewn(1, 4, "abcd"), 15, Checks.bits(0, 3));
        couldBe(Checks.laid(1, 2, "ab"), 0, 0);
        couldBe(Checks.sewn(3, 3, ".a.aaa.a."), Checks.bits(1, 3, 4, 5, 7), Checks.bits(1, 3, 5, 7));
        QuiltHouse ring = Checks.sewn(2, 2, "abcd");
        couldBe(ring, 15, 15);
        ring.unpick(0, 1);
        couldBe(ring, 15, Checks.bits(0, 1));
        couldBe(Checks.sewn(3, 3, "aaa...bbb"), 0, 0);
        int[] outside = {LEAST, -1, 2, MOST};
        for (int what : outside) {
            checks.due("could(" + what + ")", ring.could(what), OUTSIDE);
        }
    }

    private static void couldBe(QuiltHouse house, int first, int last) {
        checks.due("could(0)", house.could(0), first);
        checks.due("could(1)", house.could(1), last);
    }

    private static void turn() {
        checks.promise(25, "turn");
        QuiltHouse house = Checks.laid(2, 3, "abcd.a");
        house.sew(0, 1);
        house.sew(2, 5);
        house.sew(0, 3);
        checks.due("turn()", house.turn(), 6);
        checks.due("rows", house.told(1), 3);
        checks.due("columns", house.told(2), 2);
        int[] families = {3, 0, NONE, 1, 0, 2};
        for (int place = 0; place < 6; place++) {
            checks.due("family(" + place + ")", house.family(place), families[place]);
        }
        checks.due("seams", house.told(7), 3);
        checks.due("a, b and d", house.pieces(1), Checks.bits(0, 1, 3));
        checks.due("c and a", house.pieces(4), Checks.bits(4, 5));
        checks.due("a and d, side by side", house.sew(0, 1), STATE);
        checks.due("a and b, one below the other", house.sew(1, 3), STATE);
        checks.due("b and c were not", house.sew(3, 5), 2);
        checks.due("turn() of a row", Checks.laid(1, 4, "abcd").turn(), 4);
    }

    private static void turnKeepsAllElse() {
        QuiltHouse house = Checks.laid(3, 4, "ab.cd.abca.d");
        house.foes(0, 1, true);
        house.set(0, 5);
        house.say('b');
        for (int place = 0; place < 12; place++) {
            house.sew(place, place + 4);
            house.sew(place, place + 1);
        }
        house.unpick(0, 4);
        int seams = house.told(7);
        house.image(0);
        for (int i = 0; i < 4; i++) {
            house.turn();
        }
        checks.due("four turns: seams", house.told(7), seams);
        int[] places = {0, 1, 3, 4, 6, 7, 8, 9, 11};
        QuiltHouse fresh = Checks.laid(1, 1, ".");
        fresh.image(0);
        for (int place : places) {
            int piece = house.pieces(place);
            int family = house.family(place);
            house.restore(0);
            checks.due("four turns: piece of " + place, piece, house.pieces(place));
            checks.due("four turns: family at " + place, family, house.family(place));
        }
        checks.due("KIN stays", house.told(4), 5);
        checks.due("the pad stays", house.told(0), 1);
        house.turn();
        house.quilt(1, 2);
        house.birth(0, 0);
        checks.due("foes stay", house.birth(1, 1), 0);
        checks.due("nothing lies on a bare quilt", fresh.turn(), 1);
        checks.due("nobody", fresh.told(3), 0);
    }

    private static void yearsAre(QuiltHouse house, int seed, int n, int... due) {
        for (int what = 0; what < due.length; what++) {
            checks.due("years(" + seed + ", " + n + ", " + what + ")", house.years(seed, n, what), due[what]);
        }
    }

    private static void years() {
        checks.promise(26, "years");
        QuiltHouse house = bare(1, 2, 0);
        // From 0 on x becomes 74, 5624 and 28652 (421874 less 6 times 65537): each time it is place 0.
        yearsAre(house, 0, 1, 1, 0, 1, 1);
        yearsAre(house, 0, 2, 1, 1, 0, 0);
        yearsAre(house, 0, 3, 2, 1, 1, 1);
        yearsAre(new QuiltHouse(), 5, 1, 1, 0, 1, 1);
        QuiltHouse pair = Checks.laid(1, 2, ".a");
        yearsAre(pair, 0, 1, 1, 0, 2, 1);
        pair.foes(0, 0, true);
        yearsAre(pair, 0, 1, 1, 0, 2, 2);
        pair.foes(0, 0, false);
        // The family of 74 is 0 (74 by 16, cut: 4; left over by 4: 0), so it is no foe of a.
        pair.foes(0, 1, true);
        yearsAre(pair, 0, 1, 1, 0, 2, 1);
        // Each of these seeds gives place 0 of two: x is 74, 1874, 224 and 824, of families 0 to 3.
        int[] seeds = {0, 24, 2, 10};
        for (int family = 0; family < 4; family++) {
            QuiltHouse foe = Checks.laid(1, 2, ".a");
            foe.foes(0, family, true);
            for (int born = 0; born < 4; born++) {
                yearsAre(foe, seeds[born], 1, 1, 0, 2, born == family ? 2 : 1);
            }
        }
        checks.due("nothing is done", pair.told(3), 2);
        checks.due("nothing is sewn", pair.told(7), 0);
        QuiltHouse death = Checks.sewn(1, 3, "aaa");
        // From 1 on x becomes 149: place 2 of three, place 1 of four.
        yearsAre(death, 1, 1, 0, 1, 2, 1);
        yearsAre(Checks.sewn(1, 4, "abcd"), 1, 1, 0, 1, 3, 2);
        checks.due("sewn as it was", death.pieces(0), 7);
        int[][] outside = {{-1, 1, 0}, {10000, 1, 0}, {0, 0, 0}, {0, 100, 0}, {0, 1, -1}, {0, 1, 4}, {LEAST, 1, 0},
            {MOST, 1, 0}, {0, LEAST, 0}, {0, MOST, 0}, {0, 1, LEAST}, {0, 1, MOST}};
        for (int[] call : outside) {
            String told = "years(" + call[0] + ", " + call[1] + ", " + call[2] + ")";
            checks.due(told, house.years(call[0], call[1], call[2]), OUTSIDE);
        }
        PlainQuilt plain = new PlainQuilt();
        plain.quilt(4, 4);
        QuiltHouse large = bare(4, 4, 0);
        for (int what = 0; what < 4; what++) {
            checks.due("years(9999, 99, " + what + ")", large.years(9999, 99, what), plain.years(9999, 99, what));
            checks.due("years(0, 99, " + what + ")", large.years(0, 99, what), plain.years(0, 99, what));
        }
    }

    private static void image() {
        checks.promise(27, "image");
        QuiltHouse house = Checks.sewn(2, 2, "abcd");
        int[] outside = {LEAST, -1, 2, MOST};
        for (int n : outside) {
            checks.due("image(" + n + ")", house.image(n), OUTSIDE);
        }
        checks.due("nothing was kept", house.restore(0), STATE);
        checks.due("image(0)", house.image(0), 1);
        checks.due("nothing was kept in the other", house.restore(1), STATE);
        house.death(3);
        checks.due("image(1)", house.image(1), 1);
        house.death(0);
        house.restore(0);
        checks.due("the first", house.told(3), 15);
        house.restore(1);
        checks.due("the second", house.told(3), 7);
        house.image(0);
        house.death(0);
        house.restore(0);
        checks.due("the first, kept anew", house.told(3), 7);
    }

    private static void restore() {
        checks.promise(28, "restore");
        QuiltHouse house = Checks.sewn(2, 3, "abcd.a");
        house.foes(0, 1, true);
        house.set(0, 11);
        house.set(1, 12);
        house.set(2, 3);
        int seams = house.told(7);
        house.image(1);
        int[] outside = {LEAST, -1, 2, MOST};
        for (int n : outside) {
            checks.due("restore(" + n + ")", house.restore(n), OUTSIDE);
        }
        checks.due("restore(0)", house.restore(0), STATE);
        house.quilt(4, 4);
        house.foes(0, 1, false);
        house.foes(2, 2, true);
        house.set(0, 1);
        house.set(1, 2);
        house.set(2, 0);
        Checks.say(house, "abc");
        checks.due("restore(1)", house.restore(1), 1);
        int[] told = {3, 2, 3, Checks.bits(0, 1, 2, 3, 5), 11, 12, 3, seams};
        for (int what = 0; what < told.length; what++) {
            checks.due("told(" + what + ")", house.told(what), told[what]);
        }
        checks.due("a piece", house.pieces(0), Checks.bits(0, 3));
        checks.due("a family", house.family(3), 3);
        checks.due("foes", house.sew(0, 1), -5);
        house.death(2);
        checks.due("friends", house.birth(2, 2), 2);
        checks.due("restore(1) again", house.restore(1), 1);
        checks.due("as it was kept", house.told(3), told[3]);
        checks.due("no longer than it was", house.pieces(6), UNKNOWN);
    }

    private static void told() {
        checks.promise(29, "told");
        QuiltHouse house = Checks.sewn(2, 3, "abcd.a");
        house.set(0, 11);
        house.set(1, 12);
        house.set(2, 3);
        Checks.say(house, "xyz");
        int[] told = {3, 2, 3, Checks.bits(0, 1, 2, 3, 5), 11, 12, 3, 4};
        for (int what = 0; what < told.length; what++) {
            checks.due("told(" + what + ")", house.told(what), told[what]);
        }
        int[] outside = {LEAST, -1, 8, MOST};
        for (int what : outside) {
            checks.due("told(" + what + ")", house.told(what), OUTSIDE);
        }
    }
}
