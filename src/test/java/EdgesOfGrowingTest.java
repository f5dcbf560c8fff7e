/**
 * Promises 21 to 29, sentence by sentence: the least and the greatest that is allowed, the empty and the full,
 * the first of several. What is refused, and that it changes nothing, stands in RefusedTest.
 */
public final class EdgesOfGrowingTest {
    private static final int UNKNOWN = -1, OUTSIDE = -2, STATE = -3, FULL = -4, NO = -5, NONE = -6;
    private static final String SIXTEEN = "abcdabcdabcdabcd";
    private static final Checks checks = new Checks();

    public static void main(String[] args) {
        placingsByPlaces();
        placingsBySleepers();
        placingsByNeed();
        placingsOfFoes();
        placedByPlaces();
        placedFirst();
        placedThenCounted();
        grown();
        grownOfSizes();
        could();
        turnOfEachSize();
        turnOfEachSeam();
        turnKeepsAllElse();
        yearsAtOnePlace();
        yearsOfSeeds();
        yearsAmongFoes();
        image();
        restore();
        restoreKeeps();
        told();
        checks.end();
    }

    private static QuiltHouse bare(int rows, int columns, int need) {
        QuiltHouse house = new QuiltHouse();
        house.quilt(rows, columns);
        house.set(2, need);
        return house;
    }

    // ---- 21: "how many. OUTSIDE: each 0 to 8, 8 together; FULL: more than 9 PLACES."; "of nobody 1"

    private static void placingsByPlaces() {
        checks.promise(21, "placings");
        for (int rows = 1; rows <= 4; rows++) {
            for (int columns = 1; columns <= 4; columns++) {
                int places = rows * columns;
                boolean full = places > 9;
                QuiltHouse house = bare(rows, columns, 4);
                String size = rows + " by " + columns;
                checks.due(size + ", nobody", house.placings(0, 0, 0, 0), full ? FULL : 1);
                checks.due(size + ", one in need", house.placings(0, 1, 0, 0), full ? FULL : 0);
                house.set(2, 0);
                checks.due(size + ", one", house.placings(0, 0, 1, 0), full ? FULL : places);
                int two = places * (places - 1);
                checks.due(size + ", two", house.placings(1, 0, 0, 1), full ? FULL : two);
                checks.due(size + ", two alike", house.placings(0, 0, 0, 2), full ? FULL : two / 2);
                int eight = places == 9 ? 9 : places == 8 ? 1 : 0;
                checks.due(size + ", eight", house.placings(8, 0, 0, 0), full ? FULL : eight);
                checks.due(size + ", nine together", house.placings(8, 0, 0, 1), OUTSIDE);
            }
        }
    }

    private static void placingsBySleepers() {
        QuiltHouse house = bare(3, 3, 0);
        int[] of = {1, 9, 36, 84, 126, 126, 84, 36, 9};
        for (int n = -1; n <= 10; n++) {
            int due = n >= 0 && n <= 8 ? of[n] : OUTSIDE;
            checks.due(n + " of a", house.placings(n, 0, 0, 0), due);
            checks.due(n + " of b", house.placings(0, n, 0, 0), due);
            checks.due(n + " of c", house.placings(0, 0, n, 0), due);
            checks.due(n + " of d", house.placings(0, 0, 0, n), due);
        }
        checks.due("eight together", house.placings(1, 0, 0, 7), 9 * 8);
        checks.due("eight together, of two", house.placings(0, 4, 4, 0), 9 * 70);
        checks.due("eight together, of all", house.placings(1, 1, 1, 5), 9 * 8 * 7 * 6);
        checks.due("nine together", house.placings(1, 1, 1, 6), OUTSIDE);
        checks.due("nine together, of two", house.placings(0, 4, 5, 0), OUTSIDE);
        checks.due("as many as places", bare(2, 4, 0).placings(2, 2, 2, 2), 2520);
        checks.due("one more than places", bare(1, 4, 0).placings(2, 1, 1, 1), 0);
        checks.due("OUTSIDE ahead of FULL", bare(4, 4, 0).placings(0, 0, 9, 0), OUTSIDE);
        checks.due("OUTSIDE together ahead of FULL", bare(4, 3, 0).placings(3, 3, 3, 0), OUTSIDE);
        checks.due("below none ahead of FULL", bare(4, 4, 0).placings(0, 0, 0, -1), OUTSIDE);
    }

    /** As many neighbours as NEED are enough, one less is not: in rows, in columns, at the edges. */
    private static void placingsByNeed() {
        int[][] sizes = {{1, 2}, {1, 4}, {2, 2}, {2, 3}, {2, 4}, {3, 3}};
        int[][] crowds = {{2, 1, 1}, {3, 1, 2}, {4, 2, 1}, {4, 2, 2}, {6, 2, 2}, {8, 2, 5}};
        for (int i = 0; i < sizes.length; i++) {
            int rows = sizes[i][0];
            int columns = sizes[i][1];
            int n = crowds[i][0];
            int need = crowds[i][1];
            String told = n + " in " + rows + " by " + columns + ", NEED ";
            checks.due(told + need, bare(rows, columns, need).placings(n, 0, 0, 0), crowds[i][2]);
            checks.due(told + need + ", turned", bare(columns, rows, need).placings(0, 0, n, 0), crowds[i][2]);
            checks.due(told + (need + 1), bare(rows, columns, need + 1).placings(n, 0, 0, 0), 0);
            checks.due(told + (need + 1) + ", turned", bare(columns, rows, need + 1).placings(0, n, 0, 0), 0);
        }
        checks.due("by sleepers of any family", bare(2, 2, 2).placings(1, 1, 1, 1), 24);
        checks.due("not round a row's end", bare(2, 2, 2).placings(3, 0, 0, 0), 0);
        checks.due("pairs in a row", bare(1, 4, 1).placings(4, 0, 0, 0), 1);
        checks.due("a pair and one alone", bare(1, 4, 1).placings(1, 1, 1, 0), 12);
        checks.due("seven of eight", bare(2, 4, 2).placings(7, 0, 0, 0), 0);
        checks.due("seven of eight, in columns", bare(4, 2, 2).placings(7, 0, 0, 0), 0);
        checks.due("five of six", bare(3, 2, 2).placings(5, 0, 0, 0), 0);
        checks.due("whatever lies there", Checks.sewn(2, 2, "abcd").placings(4, 0, 0, 0), 1);
    }

    private static void placingsOfFoes() {
        QuiltHouse house = bare(1, 2, 0);
        for (int family = 0; family < 4; family++) {
            for (int other = 0; other < 4; other++) {
                int[] crowd = new int[4];
                crowd[family]++;
                crowd[other]++;
                int due = family == other ? 1 : 2;
                String told = "side by side: " + family + " and " + other;
                checks.due(told, house.placings(crowd[0], crowd[1], crowd[2], crowd[3]), due);
                house.foes(family, other, true);
                checks.due(told + ", foes", house.placings(crowd[0], crowd[1], crowd[2], crowd[3]), 0);
                house.foes(family, other, false);
            }
        }
        QuiltHouse column = bare(2, 1, 0);
        column.foes(1, 2, true);
        checks.due("one below the other", column.placings(0, 1, 1, 0), 0);
        checks.due("a foe alone", column.placings(0, 1, 0, 0), 2);
        checks.due("nobody, of foes", column.placings(0, 0, 0, 0), 1);
    }

    // ---- 22: "Who lies at a PLACE in the first; NONE: nobody, or there is none. UNKNOWN; OUTSIDE; FULL, likewise."

    private static void placedByPlaces() {
        checks.promise(22, "placed");
        for (int rows = 1; rows <= 4; rows++) {
            for (int columns = 1; columns <= 4; columns++) {
                int places = rows * columns;
                boolean full = places > 9;
                String size = rows + " by " + columns;
                QuiltHouse house = bare(rows, columns, 0);
                for (int place = 0; place < places; place++) {
                    int due = full ? FULL : place == places - 1 ? 3 : NONE;
                    checks.due(size + ", one at " + place, house.placed(0, 0, 0, 1, place), due);
                    checks.due(size + ", nobody at " + place, house.placed(0, 0, 0, 0, place), full ? FULL : NONE);
                    checks.due(size + ", OUTSIDE ahead of FULL", house.placed(0, 0, 0, 9, place), OUTSIDE);
                }
                checks.due(size + ", UNKNOWN", house.placed(0, 0, 0, 1, places), UNKNOWN);
                checks.due(size + ", UNKNOWN below", house.placed(0, 0, 0, 1, -1), UNKNOWN);
                checks.due(size + ", UNKNOWN ahead of OUTSIDE", house.placed(8, 0, 0, 1, places), UNKNOWN);
                house.set(2, 4);
                checks.due(size + ", there is none", house.placed(1, 0, 0, 0, places - 1), full ? FULL : NONE);
            }
        }
    }

    private static void placedAre(String name, QuiltHouse house, int[] crowd, int... families) {
        for (int place = 0; place < families.length; place++) {
            int got = house.placed(crowd[0], crowd[1], crowd[2], crowd[3], place);
            checks.due(name + ", at " + place, got, families[place]);
        }
    }

    private static void placedFirst() {
        placedAre("none first, then a, b", bare(3, 3, 0), new int[] {2, 2, 2, 2}, NONE, 0, 0, 1, 1, 2, 2, 3, 3);
        placedAre("eight alike", bare(3, 3, 0), new int[] {0, 0, 0, 8}, NONE, 3, 3, 3, 3, 3, 3, 3, 3);
        placedAre("as many as places", bare(2, 2, 2), new int[] {1, 1, 1, 1}, 0, 1, 2, 3);
        placedAre("more than places", bare(2, 2, 0), new int[] {5, 0, 0, 0}, NONE, NONE, NONE, NONE);
        placedAre("a block", bare(3, 2, 2), new int[] {0, 4, 0, 0}, NONE, NONE, 1, 1, 1, 1);
        placedAre("a block beside", bare(2, 3, 2), new int[] {0, 4, 0, 0}, NONE, 1, 1, NONE, 1, 1);
        QuiltHouse foes = bare(1, 4, 0);
        foes.foes(0, 1, true);
        placedAre("foes", foes, new int[] {1, 1, 0, 0}, NONE, 0, NONE, 1);
        placedAre("a friend between foes", foes, new int[] {1, 1, 1, 0}, NONE, 0, 2, 1);
        foes.foes(0, 2, true);
        placedAre("foes of both: the place free", foes, new int[] {1, 1, 1, 0}, 0, NONE, 1, 2);
        placedAre("none", foes, new int[] {2, 1, 1, 0}, NONE, NONE, NONE, NONE);
    }

    /** Asking for the first leaves nothing behind that the next call would count. */
    private static void placedThenCounted() {
        QuiltHouse house = bare(3, 3, 2);
        checks.due("the first of four", house.placed(4, 0, 0, 0, 8), 0);
        checks.due("three after that", house.placings(3, 0, 0, 0), 0);
        checks.due("four after that", house.placings(4, 0, 0, 0), 4);
        checks.due("the first of eight", house.placed(0, 8, 0, 0, 1), 1);
        checks.due("one after that", house.placings(1, 0, 0, 0), 0);
        checks.due("two after that", house.placed(1, 1, 0, 0, 8), NONE);
        checks.due("nobody after that", house.placed(0, 0, 0, 0, 8), NONE);
    }

    // ---- 23: "how many orders (0: none; without SQUARES, too)"

    private static void grown() {
        checks.promise(23, "grown");
        checks.due("no squares", new QuiltHouse().grown(), 0);
        checks.due("no squares on the least quilt", bare(1, 1, 2).grown(), 0);
        checks.due("no squares on the largest quilt", bare(4, 4, 2).grown(), 0);
        checks.due("one", Checks.laid(1, 1, "a").grown(), 1);
        checks.due("one at the last place", Checks.laid(4, 4, "...............a").grown(), 1);
        checks.due("two, not sewn", Checks.laid(4, 4, "..............aa").grown(), 0);
        checks.due("two, sewn", Checks.sewn(4, 4, "..............aa").grown(), 2);
        checks.due("two and one alone", Checks.sewn(2, 3, "aa...a").grown(), 0);
        QuiltHouse row = Checks.sewn(1, 4, "abcd");
        checks.due("a row of four", row.grown(), 8);
        row.unpick(2, 3);
        checks.due("one unpicked", row.grown(), 0);
        row.death(3);
        checks.due("and dead", row.grown(), 4);
        checks.due("a column of four", Checks.sewn(4, 1, "abcd").grown(), 8);
        row.death(0);
        row.death(1);
        checks.due("the last one left", row.grown(), 1);
        row.death(2);
        checks.due("none left", row.grown(), 0);
    }

    /** One object, asked on smaller and larger quilts by turns. */
    private static void grownOfSizes() {
        QuiltHouse house = new QuiltHouse();
        int[][] sizes = {{1, 1}, {1, 2}, {1, 1}, {1, 3}, {2, 2}, {2, 3}, {4, 1}, {3, 3}, {2, 2}, {3, 4}, {4, 4}, {1, 2},
            {4, 4}, {2, 1}};
        for (int[] size : sizes) {
            house.quilt(size[0], size[1]);
            checks.due("bare", house.grown(), 0);
            for (int place = 0; place < size[0] * size[1]; place++) {
                house.birth(place, place % 4);
            }
            long due = PlainQuilt.ofGrid(size[0], size[1]).grown();
            checks.due("all of " + size[0] + " by " + size[1], house.grown(), due);
        }
        checks.due("a ring of eight", Checks.sewn(3, 3, "aaaa.aaaa").grown(), 8 * 64);
    }

    // ---- 24: "SQUARES that can have been the first (what = 0), the last (1), as bits. OUTSIDE."

    private static void couldBe(String name, QuiltHouse house, int first, int last) {
        checks.due(name + ", the first", house.could(0), first);
        checks.due(name + ", the last", house.could(1), last);
        checks.due(name + ", below", house.could(-1), OUTSIDE);
        checks.due(name + ", above", house.could(2), OUTSIDE);
    }

    private static void could() {
        checks.promise(24, "could");
        couldBe("no squares", new QuiltHouse(), 0, 0);
        couldBe("one", Checks.laid(1, 1, "a"), 1, 1);
        couldBe("one at the last place", Checks.laid(4, 4, "...............a"), 32768, 32768);
        couldBe("two, not sewn", Checks.laid(1, 2, "aa"), 0, 0);
        couldBe("two, sewn", Checks.sewn(1, 2, "aa"), 3, 3);
        couldBe("three", Checks.sewn(1, 3, "aaa"), 7, 5);
        couldBe("two pieces", Checks.sewn(1, 4, "aa.a"), 0, 0);
        couldBe("sixteen", Checks.sewn(4, 4, SIXTEEN), 65535, 65535);
        couldBe("sixteen, not sewn", Checks.laid(4, 4, SIXTEEN), 0, 0);
        couldBe("a cross", Checks.sewn(3, 3, ".a.aaa.a."), Checks.bits(1, 3, 4, 5, 7), Checks.bits(1, 3, 5, 7));
    }

    // ---- 25: "TURNED: PLACES."; "at row r, column c lies at row c, column (ROWS less 1 less r) then, SEWN as it was"

    private static int turned(int rows, int columns, int place) {
        return place % columns * rows + rows - 1 - place / columns;
    }

    private static void turnOfEachSize() {
        checks.promise(25, "turn");
        for (int rows = 1; rows <= 4; rows++) {
            for (int columns = 1; columns <= 4; columns++) {
                for (int place = 0; place < rows * columns; place++) {
                    QuiltHouse house = bare(rows, columns, 2);
                    house.birth(place, place % 4);
                    String name = rows + " by " + columns + ", " + place;
                    checks.due(name, house.turn(), rows * columns);
                    checks.due(name + ", ROWS", house.told(1), columns);
                    checks.due(name + ", COLUMNS", house.told(2), rows);
                    int at = turned(rows, columns, place);
                    checks.due(name + ", where it lies", house.told(3), 1 << at);
                    checks.due(name + ", who lies there", house.family(at), place % 4);
                }
                QuiltHouse none = bare(rows, columns, 2);
                checks.due("an empty quilt", none.turn(), rows * columns);
                checks.due("stays empty", none.told(3), 0);
            }
        }
    }

    private static void turnOfEachSeam() {
        for (int rows = 1; rows <= 4; rows++) {
            for (int columns = 1; columns <= 4; columns++) {
                for (int place = 0; place < rows * columns; place++) {
                    turnOfSeam(rows, columns, place, place + 1);
                    turnOfSeam(rows, columns, place, place + columns);
                }
            }
        }
    }

    private static void turnOfSeam(int rows, int columns, int place, int other) {
        QuiltHouse house = Checks.laid(rows, columns, SIXTEEN.substring(0, rows * columns));
        if (house.sew(place, other) < 0) {
            return;
        }
        house.turn();
        String name = rows + " by " + columns + ", " + place + " and " + other;
        checks.due(name + ", seams", house.told(7), 1);
        int at = turned(rows, columns, place);
        int with = turned(rows, columns, other);
        checks.due(name + ", as it was", house.pieces(at), 1 << at | 1 << with);
        checks.fine(name + ", unpicked", house.unpick(at, with) > 0);
        checks.due(name + ", no more", house.told(7), 0);
    }

    private static void turnKeepsAllElse() {
        QuiltHouse house = Checks.sewn(2, 3, "abbacc");
        house.image(0);
        house.set(0, 99);
        house.set(1, 0);
        house.set(2, 4);
        house.foes(1, 1, true);
        Checks.say(house, "xyz");
        int spent = house.spent();
        for (int turns = 1; turns <= 4; turns++) {
            house.turn();
            checks.due("spent stays", house.spent(), spent);
            checks.due("seams stay", house.told(7), 6);
        }
        int[] told = {3, 2, 3, 63, 99, 0, 4, 6};
        for (int what = 0; what < told.length; what++) {
            checks.due("four turns, told(" + what + ")", house.told(what), told[what]);
        }
        checks.due("foes stay", house.sew(1, 2), NO);
        house.restore(0);
        checks.due("the image is not turned", house.told(2), 3);
        checks.due("nor its seams", house.told(7), 7);
    }

    // ---- 26: "births (0), deaths (1), SQUARES (2), PIECES (3). OUTSIDE."; seed 0 to 9999, n 1 to 99

    private static void yearsAre(String name, QuiltHouse house, int seed, int n, int... due) {
        for (int what = 0; what < due.length; what++) {
            checks.due(name + ", years(" + seed + ", " + n + ", " + what + ")", house.years(seed, n, what), due[what]);
        }
        checks.due(name + ", below", house.years(seed, n, -1), OUTSIDE);
        checks.due(name + ", above", house.years(seed, n, 4), OUTSIDE);
    }

    /** At one place births and deaths come by turns, whatever is drawn. */
    private static void yearsAtOnePlace() {
        checks.promise(26, "years");
        for (int seed : new int[] {0, 1, 873, 874, 9998, 9999}) {
            QuiltHouse none = bare(1, 1, 2);
            QuiltHouse one = Checks.laid(1, 1, "b");
            yearsAre("none at first", none, seed, 1, 1, 0, 1, 1);
            yearsAre("none at first", none, seed, 2, 1, 1, 0, 0);
            yearsAre("none at first", none, seed, 98, 49, 49, 0, 0);
            yearsAre("none at first", none, seed, 99, 50, 49, 1, 1);
            yearsAre("one at first", one, seed, 1, 0, 1, 0, 0);
            yearsAre("one at first", one, seed, 2, 1, 1, 1, 1);
            yearsAre("one at first", one, seed, 99, 49, 50, 0, 0);
            checks.due("n of none", one.years(seed, 0, 0), OUTSIDE);
            checks.due("n of a hundred", one.years(seed, 100, 0), OUTSIDE);
            checks.due("nothing is done", one.told(3), 1);
            checks.due("nothing is done to none", none.told(3), 0);
        }
        checks.due("a seed below", bare(1, 1, 2).years(-1, 1, 0), OUTSIDE);
        checks.due("a seed above", bare(1, 1, 2).years(10000, 1, 0), OUTSIDE);
    }

    /** The place that the first x of a seed gives in four by four: its square dies, and only there none was. */
    private static void firstPlaceIs(int seed, int place) {
        String text = ".".repeat(place) + "a" + ".".repeat(15 - place);
        yearsAre("one at " + place, Checks.laid(4, 4, text), seed, 1, 0, 1, 0, 0);
        String all = "a".repeat(place) + "." + "a".repeat(15 - place);
        yearsAre("all but one at " + place, Checks.sewn(4, 4, all), seed, 1, 1, 0, 16, 1);
    }

    private static void yearsOfSeeds() {
        firstPlaceIs(0, 74 % 16);
        firstPlaceIs(1, 149 % 16);
        // The last seed for which nothing wraps around, 75 * 872 and 74 being 65474; the next one gives 12.
        firstPlaceIs(872, 65474 % 16);
        firstPlaceIs(873, 12);
        firstPlaceIs(874, 87 % 16);
        // 75 * 9999 and 74 is 749999: 29092, and 11 times 65537.
        firstPlaceIs(9999, 29092 % 16);
        firstPlaceIs(9998, 29017 % 16);
        PlainQuilt plain = PlainQuilt.ofGrid(4, 4);
        QuiltHouse house = Checks.sewn(4, 4, "aaaaaaaaaaaaaaaa");
        // The sixteenth x of the seed 5525 is 0.
        for (int n : new int[] {15, 16, 17, 99}) {
            for (int what = 0; what < 4; what++) {
                String call = "years(5525, " + n + ", " + what + ")";
                checks.due(call, house.years(5525, n, what), plain.years(5525, n, what));
            }
        }
    }

    private static void yearsAmongFoes() {
        // From 0 on x is 74: place 10 of sixteen; from 24 on it is 1874: place 2, family 117 left over by 4.
        QuiltHouse house = Checks.laid(4, 4, ".a..............");
        yearsAre("sewn", house, 24, 1, 1, 0, 2, 1);
        house.foes(0, 1, true);
        yearsAre("not sewn to a foe", house, 24, 1, 1, 0, 2, 2);
        house.foes(0, 1, false);
        house.foes(0, 0, true);
        house.foes(0, 2, true);
        house.foes(0, 3, true);
        yearsAre("sewn but to the foe of others", house, 24, 1, 1, 0, 2, 1);
        checks.due("family 117 left over by 4", 1874 / 16 % 4, 1);
    }

    // ---- 27: "All but the PAD is kept in an IMAGE (0, 1): 1. OUTSIDE."
    // ---- 28: "It is as it was when it was kept: 1. OUTSIDE; STATE: it was not."

    private static void image() {
        checks.promise(27, "image");
        for (int n = -2; n <= 3; n++) {
            boolean allowed = n == 0 || n == 1;
            QuiltHouse house = Checks.laid(1, 1, "a");
            checks.due("image(" + n + ")", house.image(n), allowed ? 1 : OUTSIDE);
            checks.due("image(" + n + ") keeps 0", house.restore(0), n == 0 ? 1 : STATE);
            checks.due("image(" + n + ") keeps 1", house.restore(1), n == 1 ? 1 : STATE);
            checks.due("nothing else is done", house.told(3), 1);
        }
        QuiltHouse house = Checks.laid(1, 2, "ab");
        house.image(0);
        house.death(0);
        checks.due("kept anew", house.image(0), 1);
        house.quilt(4, 4);
        house.restore(0);
        checks.due("as it was then", house.told(3), 2);
        QuiltHouse bare = new QuiltHouse();
        checks.due("a new object is kept, too", bare.image(1), 1);
        bare.birth(0, 0);
        checks.due("and comes back", bare.restore(1), 1);
        checks.due("without squares", bare.told(3), 0);
    }

    private static void restore() {
        checks.promise(28, "restore");
        QuiltHouse house = new QuiltHouse();
        for (int n = -2; n <= 3; n++) {
            boolean allowed = n == 0 || n == 1;
            checks.due("restore(" + n + ") of none", house.restore(n), allowed ? STATE : OUTSIDE);
        }
        house.image(1);
        checks.due("restore(0) of the other", house.restore(0), STATE);
        for (int times = 0; times < 3; times++) {
            house.birth(4, 0);
            checks.due("restore(1)", house.restore(1), 1);
            checks.due("as it was kept", house.told(3), 0);
        }
        house.birth(3, 2);
        house.image(0);
        house.birth(4, 2);
        checks.due("the other stays as it is", house.restore(1), 1);
        checks.due("it has no squares", house.told(3), 0);
        checks.due("and leaves the first as it is", house.restore(0), 1);
        checks.due("it has one", house.told(3), 8);
    }

    private static void restoreKeeps() {
        QuiltHouse house = Checks.sewn(1, 4, "abcd");
        house.set(0, 99);
        house.set(1, 0);
        house.set(2, 0);
        house.foes(0, 0, true);
        house.foes(1, 2, true);
        house.foes(3, 3, true);
        house.image(0);
        house.turn();
        house.set(0, 1);
        house.set(1, 2);
        house.set(2, 2);
        house.foes(0, 0, false);
        house.foes(0, 1, true);
        house.foes(1, 2, false);
        Checks.say(house, ".");
        house.restore(0);
        int[] told = {1, 1, 4, 15, 99, 0, 0, 2};
        for (int what = 0; what < told.length; what++) {
            checks.due("told(" + what + ")", house.told(what), told[what]);
        }
        checks.due("foes as they were", house.sew(1, 2), NO);
        checks.due("friends as they were, sewn", house.unpick(0, 1), 0);
        checks.due("friends as they were", house.sew(0, 1), 0);
        house.quilt(1, 2);
        house.birth(0, 0);
        checks.due("foes of their own as they were", house.birth(1, 0), 0);
    }

    // ---- 29: "0 signs, 1 ROWS, 2 COLUMNS, 3 SQUARES (bits), 4 KIN, 5 OTHER, 6 NEED, 7 SEWN SEAMS. OUTSIDE."

    private static void told() {
        checks.promise(29, "told");
        QuiltHouse most = Checks.sewn(4, 4, SIXTEEN);
        most.set(0, 99);
        most.set(1, 99);
        most.set(2, 4);
        for (int i = 0; i < 40; i++) {
            most.say(126);
        }
        QuiltHouse least = bare(1, 1, 0);
        least.set(0, 0);
        least.set(1, 0);
        int[] greatest = {40, 4, 4, 65535, 99, 99, 4, 24};
        int[] smallest = {0, 1, 1, 0, 0, 0, 0, 0};
        for (int what = -2; what <= 9; what++) {
            boolean allowed = what >= 0 && what <= 7;
            checks.due("the most, told(" + what + ")", most.told(what), allowed ? greatest[what] : OUTSIDE);
            checks.due("the least, told(" + what + ")", least.told(what), allowed ? smallest[what] : OUTSIDE);
        }
    }
}
