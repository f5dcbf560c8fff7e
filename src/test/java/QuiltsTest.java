/** Promises 1 to 13: quilts as texts, squares, seams. */
public final class QuiltsTest {
    private static final int UNKNOWN = -1, OUTSIDE = -2, STATE = -3, FULL = -4, NO = -5, NONE = -6;
    private static final int LEAST = Integer.MIN_VALUE, MOST = Integer.MAX_VALUE;
    private static final Checks checks = new Checks();

    public static void main(String[] args) {
        constants();
        newObject();
        quilt();
        say();
        wipe();
        fault();
        lay();
        family();
        foes();
        set();
        sew();
        unpick();
        birth();
        death();
        checks.end();
    }

    private static void constants() {
        checks.promise(0, "constants");
        checks.due("UNKNOWN", QuiltHouse.UNKNOWN, UNKNOWN);
        checks.due("OUTSIDE", QuiltHouse.OUTSIDE, OUTSIDE);
        checks.due("STATE", QuiltHouse.STATE, STATE);
        checks.due("FULL", QuiltHouse.FULL, FULL);
        checks.due("NO", QuiltHouse.NO, NO);
        checks.due("NONE", QuiltHouse.NONE, NONE);
    }

    private static void newObject() {
        checks.promise(1, "a new object");
        QuiltHouse house = new QuiltHouse();
        int[] told = {0, 3, 3, 0, 1, 2, 2, 0};
        for (int what = 0; what < told.length; what++) {
            checks.due("told(" + what + ")", house.told(what), told[what]);
        }
        for (int place = 0; place < 9; place++) {
            checks.due("family(" + place + ")", house.family(place), NONE);
        }
        checks.due("restore(0)", house.restore(0), STATE);
        checks.due("restore(1)", house.restore(1), STATE);
        for (int family = 0; family < 4; family++) {
            checks.due("birth beside " + family, new QuiltHouse().birth(4, family), 0);
            for (int other = 0; other < 4; other++) {
                QuiltHouse pair = new QuiltHouse();
                pair.birth(0, family);
                checks.due("no foes " + family + ", " + other, pair.birth(1, other), 1);
            }
        }
    }

    private static void quilt() {
        checks.promise(2, "quilt");
        for (int rows = 1; rows <= 4; rows++) {
            for (int columns = 1; columns <= 4; columns++) {
                QuiltHouse house = new QuiltHouse();
                checks.due("quilt(" + rows + ", " + columns + ")", house.quilt(rows, columns), rows * columns);
                checks.due("told(1)", house.told(1), rows);
                checks.due("told(2)", house.told(2), columns);
                checks.due("the last place", house.family(rows * columns - 1), NONE);
                checks.due("behind the last place", house.family(rows * columns), UNKNOWN);
            }
        }
        int[] outside = {LEAST, -1, 0, 5, MOST};
        for (int side : outside) {
            QuiltHouse house = Checks.sewn(2, 2, "abcd");
            checks.due("quilt(" + side + ", 1)", house.quilt(side, 1), OUTSIDE);
            checks.due("quilt(1, " + side + ")", house.quilt(1, side), OUTSIDE);
            checks.due("squares stay", house.told(3), 15);
            checks.due("seams stay", house.told(7), 4);
            checks.due("rows stay", house.told(1), 2);
        }
        quiltKeepsAllElse();
    }

    private static void quiltKeepsAllElse() {
        QuiltHouse house = Checks.sewn(2, 2, "abcd");
        house.foes(0, 1, true);
        house.set(0, 7);
        house.set(1, 8);
        house.set(2, 3);
        house.say('a');
        house.image(1);
        checks.due("quilt(2, 2)", house.quilt(2, 2), 4);
        int[] told = {1, 2, 2, 0, 7, 8, 3, 0};
        for (int what = 0; what < told.length; what++) {
            checks.due("told(" + what + ")", house.told(what), told[what]);
        }
        house.birth(0, 0);
        checks.due("foes stay", house.birth(1, 1), 0);
        checks.due("an image stays", house.restore(1), 1);
        checks.due("squares of the image", house.told(3), 15);
    }

    private static void say() {
        checks.promise(3, "say");
        QuiltHouse house = new QuiltHouse();
        int[] outside = {LEAST, -1, 0, 32, 127, 128, 33 + 65536, MOST};
        for (int sign : outside) {
            checks.due("say(" + sign + ")", house.say(sign), OUTSIDE);
        }
        checks.due("no signs", house.told(0), 0);
        checks.due("say(33)", house.say(33), 1);
        checks.due("say(126)", house.say(126), 2);
        for (int i = 3; i <= 40; i++) {
            checks.due("say(97)", house.say(97), i);
        }
        checks.due("the 41st", house.say(97), FULL);
        checks.due("OUTSIDE ahead of FULL", house.say(32), OUTSIDE);
        checks.due("signs", house.told(0), 40);
        house.wipe();
        checks.due("after wiping", house.say(97), 1);
    }

    private static void wipe() {
        checks.promise(4, "wipe");
        QuiltHouse house = new QuiltHouse();
        checks.due("of an empty pad", house.wipe(), 0);
        Checks.say(house, "abcd");
        checks.due("of four", house.wipe(), 4);
        checks.due("told(0)", house.told(0), 0);
        checks.due("again", house.wipe(), 0);
    }

    private static void fault() {
        checks.promise(5, "fault");
        faultIs(2, 2, "", 0);
        faultIs(2, 2, "abc", 3);
        faultIs(2, 2, "abcd", NONE);
        faultIs(2, 2, "....", NONE);
        faultIs(2, 2, "abcda", 4);
        faultIs(2, 2, "abcde", 4);
        faultIs(2, 2, "eabcd", 0);
        faultIs(2, 2, "aeb", 1);
        faultIs(2, 2, "abcA", 3);
        faultIs(2, 2, "ab-d", 2);
        faultIs(2, 2, "ab/d", 2);
        faultIs(2, 2, "ab`d", 2);
        faultIs(4, 4, "abcdabcdabcdabc", 15);
        faultIs(4, 4, "abcdabcdabcdabcd", NONE);
        faultIs(1, 1, "d", NONE);
        QuiltHouse house = new QuiltHouse();
        Checks.say(house, "abcd");
        checks.due("three by three", house.fault(), 4);
        house.quilt(1, 3);
        checks.due("one by three", house.fault(), 3);
        house.quilt(1, 4);
        checks.due("one by four", house.fault(), NONE);
        checks.due("the pad stays", house.told(0), 4);
    }

    private static void faultIs(int rows, int columns, String text, int want) {
        QuiltHouse house = new QuiltHouse();
        house.quilt(rows, columns);
        Checks.say(house, text);
        checks.due("fault() of \"" + text + "\"", house.fault(), want);
        checks.due("lay() of \"" + text + "\" refused", house.lay() == NO ? 1 : 0, want == NONE ? 0 : 1);
    }

    private static void lay() {
        checks.promise(6, "lay");
        QuiltHouse house = new QuiltHouse();
        house.quilt(2, 3);
        Checks.say(house, "a.bc.d");
        checks.due("lay()", house.lay(), 4);
        int[] families = {0, NONE, 1, 2, NONE, 3};
        for (int place = 0; place < 6; place++) {
            checks.due("family(" + place + ")", house.family(place), families[place]);
        }
        checks.due("nothing is sewn", house.told(7), 0);
        checks.due("the pad is empty", house.told(0), 0);
        house.sew(0, 3);
        Checks.say(house, "abcd");
        checks.due("too few signs", house.lay(), NO);
        checks.due("the pad stays", house.told(0), 4);
        checks.due("squares stay", house.told(3), Checks.bits(0, 2, 3, 5));
        checks.due("a seam stays", house.told(7), 1);
        Checks.say(house, "..");
        checks.due("lay() again", house.lay(), 4);
        checks.due("other squares", house.told(3), 15);
        checks.due("another family", house.family(3), 3);
        checks.due("nothing is sewn then", house.told(7), 0);
        Checks.say(house, "......");
        checks.due("nobody", house.lay(), 0);
        checks.due("no squares", house.told(3), 0);
    }

    private static void family() {
        checks.promise(7, "family");
        QuiltHouse house = Checks.laid(3, 3, "abcd.dcba");
        int[] families = {0, 1, 2, 3, NONE, 3, 2, 1, 0};
        for (int place = 0; place < 9; place++) {
            checks.due("family(" + place + ")", house.family(place), families[place]);
        }
        int[] unknown = {LEAST, -6, -1, 9, 16, 32, MOST};
        for (int place : unknown) {
            checks.due("family(" + place + ")", house.family(place), UNKNOWN);
        }
    }

    private static void foes() {
        checks.promise(8, "foes");
        QuiltHouse house = Checks.sewn(2, 3, "abaaab");
        checks.due("all is sewn", house.told(7), 7);
        checks.due("foes(1, 0, true)", house.foes(1, 0, true), 1);
        checks.due("seams of theirs are unpicked", house.told(7), 2);
        checks.due("sew(0, 1)", house.sew(0, 1), NO);
        checks.due("sew(1, 4)", house.sew(1, 4), NO);
        checks.due("foes once more", house.foes(0, 1, true), 1);
        checks.due("foes(0, 1, false)", house.foes(0, 1, false), 1);
        checks.due("nothing is sewn by that", house.told(7), 2);
        checks.due("sew(0, 1)", house.sew(0, 1), 2);
        checks.due("a family with itself", house.foes(0, 0, true), 1);
        checks.due("its seams are unpicked", house.told(7), 1);
        checks.due("sew(3, 4)", house.sew(3, 4), NO);
        checks.due("seams of friends stay when they are friends", house.foes(1, 0, false), 1);
        checks.due("seams", house.told(7), 1);
        foesOfMany();
        int[] unknown = {LEAST, -1, 4, MOST};
        for (int family : unknown) {
            checks.due("foes(" + family + ", 0, true)", house.foes(family, 0, true), UNKNOWN);
            checks.due("foes(0, " + family + ", false)", house.foes(0, family, false), UNKNOWN);
        }
        checks.due("sew(3, 4) still", house.sew(3, 4), NO);
    }

    private static void foesOfMany() {
        QuiltHouse house = Checks.laid(3, 3, ".b.b.c.d.");
        house.foes(0, 1, true);
        house.foes(0, 3, true);
        house.foes(2, 0, true);
        house.foes(0, 2, false);
        checks.due("foes of one family add up", house.birth(4, 0), 1);
        checks.due("the friend", house.unpick(4, 5), 2);
        house.death(4);
        house.foes(1, 3, true);
        checks.due("foes the other way round add up", house.birth(4, 3), 2);
        checks.due("b is no foe of b and of c", house.birth(2, 1), 2);
    }

    private static void set() {
        checks.promise(9, "set");
        QuiltHouse house = new QuiltHouse();
        checks.due("KIN", house.set(0, 99), 1);
        checks.due("OTHER", house.set(1, 98), 2);
        checks.due("NEED", house.set(2, 4), 2);
        checks.due("KIN is", house.told(4), 99);
        checks.due("OTHER is", house.told(5), 98);
        checks.due("NEED is", house.told(6), 4);
        int[][] outside = {{-1, 0}, {3, 0}, {LEAST, 0}, {MOST, 0}, {0, -1}, {0, 100}, {1, -1}, {1, 100}, {2, -1},
            {2, 5}, {0, LEAST}, {1, MOST}, {2, MOST}};
        for (int[] call : outside) {
            checks.due("set(" + call[0] + ", " + call[1] + ")", house.set(call[0], call[1]), OUTSIDE);
        }
        checks.due("KIN was", house.set(0, 0), 99);
        checks.due("OTHER was", house.set(1, 0), 98);
        checks.due("NEED was", house.set(2, 0), 4);
    }

    private static void sew() {
        checks.promise(10, "sew");
        QuiltHouse house = Checks.laid(2, 3, "aab.ac");
        checks.due("kin", house.sew(0, 1), 1);
        checks.due("others", house.sew(2, 1), 2);
        checks.due("it is sewn", house.sew(0, 1), STATE);
        checks.due("it is sewn, the other way round", house.sew(1, 0), STATE);
        checks.due("no square", house.sew(0, 3), STATE);
        checks.due("no square, the other way round", house.sew(3, 4), STATE);
        checks.due("a row's end and the next one's start", house.sew(2, 3), STATE);
        checks.due("diagonal", house.sew(0, 4), STATE);
        checks.due("two apart", house.sew(0, 2), STATE);
        checks.due("itself", house.sew(0, 0), STATE);
        house.set(1, 50);
        house.set(0, 40);
        checks.due("thread as it is now", house.sew(5, 2), 50);
        checks.due("in a column", house.sew(4, 1), 40);
        checks.due("pieces", house.pieces(0), Checks.bits(0, 1, 2, 4, 5));
        int[] unknown = {LEAST, -1, 6, 32, MOST};
        for (int place : unknown) {
            checks.due("sew(" + place + ", 0)", house.sew(place, 0), UNKNOWN);
            checks.due("sew(3, " + place + ")", house.sew(3, place), UNKNOWN);
        }
        house.foes(2, 0, true);
        checks.due("foes", house.sew(4, 5), NO);
        checks.due("STATE ahead of NO", house.sew(0, 5), STATE);
        checks.due("seams", house.told(7), 4);
        wrapsNowhere();
    }

    private static void wrapsNowhere() {
        QuiltHouse column = Checks.laid(4, 1, "aaaa");
        checks.due("below", column.sew(0, 1), 1);
        checks.due("it is one seam", column.sew(0, 1), STATE);
        checks.due("two below", column.sew(0, 2), STATE);
        QuiltHouse row = Checks.laid(1, 4, "aaaa");
        checks.due("beside", row.sew(2, 3), 1);
        checks.due("three beside", row.sew(0, 3), STATE);
        QuiltHouse full = Checks.sewn(4, 4, "abcdabcdabcdabcd");
        checks.due("seams of all", full.told(7), 24);
    }

    private static void unpick() {
        checks.promise(11, "unpick");
        QuiltHouse house = Checks.sewn(2, 2, "aab.");
        checks.due("kin", house.unpick(1, 0), 1);
        checks.due("again", house.unpick(0, 1), STATE);
        checks.due("no square", house.unpick(1, 3), STATE);
        checks.due("no neighbours", house.unpick(1, 2), STATE);
        checks.due("itself", house.unpick(0, 0), STATE);
        house.set(1, 77);
        checks.due("others", house.unpick(0, 2), 77);
        checks.due("seams", house.told(7), 0);
        int[] unknown = {LEAST, -1, 4, MOST};
        for (int place : unknown) {
            checks.due("unpick(" + place + ", 0)", house.unpick(place, 0), UNKNOWN);
            checks.due("unpick(0, " + place + ")", house.unpick(0, place), UNKNOWN);
        }
        QuiltHouse all = Checks.sewn(2, 2, "aaaa");
        all.unpick(0, 1);
        checks.due("one alone", all.told(7), 3);
        checks.due("the others stay sewn", all.pieces(0), 15);
    }

    private static void birth() {
        checks.promise(12, "birth");
        QuiltHouse house = Checks.laid(3, 3, ".a.b.c.d.");
        checks.due("amid four", house.birth(4, 0), 4);
        checks.due("its piece", house.pieces(4), Checks.bits(1, 3, 4, 5, 7));
        checks.due("there is one", house.birth(4, 1), STATE);
        checks.due("it stays", house.family(4), 0);
        house.foes(3, 0, true);
        house.foes(2, 2, true);
        checks.due("beside a foe and a friend", house.birth(8, 2), 1);
        checks.due("thread of it", house.unpick(8, 7), 2);
        checks.due("a corner", house.birth(0, 1), 2);
        checks.due("beside a foe alone", house.birth(6, 0), 1);
        int[] unknown = {LEAST, -1, 9, 16, MOST};
        for (int place : unknown) {
            checks.due("birth(" + place + ", 0)", house.birth(place, 0), UNKNOWN);
        }
        int[] noFamily = {LEAST, -6, -1, 4, MOST};
        for (int family : noFamily) {
            checks.due("birth(2, " + family + ")", house.birth(2, family), UNKNOWN);
            checks.due("UNKNOWN ahead of STATE", house.birth(4, family), UNKNOWN);
        }
        checks.due("nobody was born", house.family(2), NONE);
        QuiltHouse rows = Checks.laid(2, 3, "..aa..");
        checks.due("a row's end is not beside the next one's start", rows.birth(1, 0), 1);
    }

    private static void death() {
        checks.promise(13, "death");
        QuiltHouse house = Checks.sewn(3, 3, "aaaabaaaa");
        checks.due("amid four", house.death(4), 4);
        checks.due("it is gone", house.family(4), NONE);
        checks.due("its seams are gone", house.told(7), 8);
        checks.due("again", house.death(4), STATE);
        checks.due("a corner", house.death(8), 2);
        house.unpick(0, 1);
        checks.due("a seam was unpicked ahead", house.death(0), 1);
        checks.due("seams", house.told(7), 4);
        Checks.say(house, ".........");
        int[] unknown = {LEAST, -1, 9, 31, MOST};
        for (int place : unknown) {
            checks.due("death(" + place + ")", house.death(place), UNKNOWN);
        }
        checks.due("one sewn to nothing", Checks.laid(1, 2, "ab").death(1), 0);
        checks.due("squares", house.told(3), Checks.bits(1, 2, 3, 5, 6, 7));
    }
}
