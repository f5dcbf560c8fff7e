import java.util.List;

/**
 * Promises 1 to 13, sentence by sentence: the least and the greatest that is allowed, the empty and the full.
 * What is refused, and that it changes nothing, stands in RefusedTest.
 */
public final class EdgesOfQuiltsTest {
    private static final int UNKNOWN = -1, OUTSIDE = -2, STATE = -3, FULL = -4, NO = -5, NONE = -6;
    private static final String SIXTEEN = "abcdabcdabcdabcd";
    private static final Checks checks = new Checks();

    public static void main(String[] args) {
        newObject();
        noFoesAtFirst();
        eachObjectIsItsOwn();
        quiltOfEachSize();
        quiltLeavesNoSquares();
        quiltKeepsAllElse();
        say();
        wipe();
        faultOfLength();
        faultOfSigns();
        lay();
        layRefused();
        family();
        foesOfEachPair();
        foesEdges();
        set();
        setIsUsed();
        sewAndUnpickOfEachPair();
        sewByItsThread();
        sewRefused();
        unpick();
        birth();
        birthAmongFoes();
        death();
        checks.end();
    }

    private static QuiltHouse bare(int rows, int columns) {
        QuiltHouse house = new QuiltHouse();
        house.quilt(rows, columns);
        return house;
    }

    private static void toldAre(String when, QuiltHouse house, int... told) {
        for (int what = 0; what < told.length; what++) {
            checks.due(when + ", told(" + what + ")", house.told(what), told[what]);
        }
    }

    // ---- 1: "Three by three, no SQUARES."

    private static void newObject() {
        checks.promise(1, "a new object");
        QuiltHouse house = new QuiltHouse();
        toldAre("at first", house, 0, 3, 3, 0, 1, 2, 2, 0);
        checks.due("a last place", house.family(8), NONE);
        checks.due("none behind it", house.family(9), UNKNOWN);
        checks.due("no pieces", house.pieces(-1), 0);
        checks.due("no signs", house.wipe(), 0);
        checks.due("KIN 1 at first", house.set(0, 1), 1);
        checks.due("OTHER 2 at first", house.set(1, 2), 2);
        checks.due("NEED 2 at first", house.set(2, 2), 2);
        checks.due("no image 0", house.restore(0), STATE);
        checks.due("no image 1", house.restore(1), STATE);
    }

    private static void noFoesAtFirst() {
        for (int family = 0; family < 4; family++) {
            for (int other = 0; other < 4; other++) {
                QuiltHouse house = new QuiltHouse();
                house.birth(4, family);
                checks.due(family + " and " + other + " are friends at first", house.birth(3, other), 1);
            }
        }
    }

    /** What is done with one object shows in no other, whether that was made ahead of it or after it. */
    private static void eachObjectIsItsOwn() {
        List<String> asNew = Looks.of(new QuiltHouse());
        List<String> asChanged = Looks.of(changed());
        QuiltHouse ahead = new QuiltHouse();
        QuiltHouse one = changed();
        QuiltHouse after = new QuiltHouse();
        checks.fine("one made ahead is as new", Looks.of(ahead).equals(asNew));
        checks.fine("one made after is as new", Looks.of(after).equals(asNew));
        checks.fine("and leaves the first as it was", Looks.of(one).equals(asChanged));
        QuiltHouse two = changed();
        QuiltHouse three = changed();
        two.foes(0, 0, true);
        two.restore(0);
        checks.due("the one has eighteen seams", three.told(7), 18);
        checks.due("the other has none", two.told(7), 0);
    }

    private static QuiltHouse changed() {
        QuiltHouse house = new QuiltHouse();
        house.quilt(4, 4);
        house.image(0);
        for (int place = 0; place < 16; place++) {
            house.birth(place, place / 4);
        }
        house.image(1);
        house.foes(0, 1, true);
        house.death(15);
        house.set(0, 7);
        house.set(1, 8);
        house.set(2, 1);
        house.grown();
        house.patch(0, 0);
        house.turn();
        house.say('z');
        return house;
    }

    // ---- 2: "ROWS and COLUMNS: PLACES. There are no SQUARES then; all else stays. OUTSIDE."

    private static void quiltOfEachSize() {
        checks.promise(2, "quilt");
        for (int rows = -1; rows <= 6; rows++) {
            for (int columns = -1; columns <= 6; columns++) {
                boolean allowed = rows >= 1 && rows <= 4 && columns >= 1 && columns <= 4;
                QuiltHouse house = new QuiltHouse();
                String call = "quilt(" + rows + ", " + columns + ")";
                checks.due(call, house.quilt(rows, columns), allowed ? rows * columns : OUTSIDE);
                toldAre(call, house, 0, allowed ? rows : 3, allowed ? columns : 3);
                int places = allowed ? rows * columns : 9;
                checks.due(call + ", the last place", house.family(places - 1), NONE);
                checks.due(call + ", none behind it", house.family(places), UNKNOWN);
            }
        }
        checks.due("a product that wraps around", new QuiltHouse().quilt(65536, 65537), OUTSIDE);
        checks.due("a product that is fine", new QuiltHouse().quilt(-3, -3), OUTSIDE);
    }

    private static void quiltLeavesNoSquares() {
        QuiltHouse house = Checks.sewn(4, 4, SIXTEEN);
        checks.due("quilt of the same size", house.quilt(4, 4), 16);
        toldAre("of the same size", house, 0, 4, 4, 0, 1, 2, 2, 0);
        for (int place = 0; place < 16; place++) {
            checks.due("none at " + place, house.family(place), NONE);
        }
        checks.due("nothing is sewn to a new square", house.birth(5, 0), 0);
        house.quilt(1, 1);
        house.quilt(4, 4);
        checks.due("a square does not come back", house.told(3), 0);
    }

    private static void quiltKeepsAllElse() {
        QuiltHouse house = new QuiltHouse();
        house.image(0);
        house.birth(8, 1);
        house.image(1);
        house.set(0, 0);
        house.set(1, 99);
        house.set(2, 4);
        house.foes(0, 0, true);
        house.foes(1, 3, true);
        Checks.say(house, "ab");
        house.quilt(1, 2);
        toldAre("all else stays", house, 2, 1, 2, 0, 0, 99, 4, 0);
        checks.due("the pad's text stays", house.lay(), 2);
        checks.due("and is no seam", house.spent(), 0);
        house.quilt(1, 2);
        house.birth(0, 0);
        checks.due("foes of their own stay", house.birth(1, 0), 0);
        house.quilt(1, 2);
        house.birth(0, 3);
        checks.due("foes stay", house.birth(1, 1), 0);
        checks.due("image 0 stays", house.restore(0), 1);
        toldAre("image 0", house, 0, 3, 3, 0, 1, 2, 2, 0);
        checks.due("image 1 stays", house.restore(1), 1);
        toldAre("image 1", house, 0, 3, 3, 256, 1, 2, 2, 0);
    }

    // ---- 3: "A sign more: how many. OUTSIDE; FULL."; "up to 40 signs (codes 33 to 126)"

    private static void say() {
        checks.promise(3, "say");
        for (int sign = -1; sign <= 300; sign++) {
            boolean allowed = sign >= 33 && sign <= 126;
            checks.due("say(" + sign + ")", new QuiltHouse().say(sign), allowed ? 1 : OUTSIDE);
        }
        QuiltHouse house = new QuiltHouse();
        for (int i = 1; i <= 40; i++) {
            checks.due("the sign " + i, house.say(33 + i), i);
        }
        checks.due("the 41st", house.say('a'), FULL);
        checks.due("the 41st, again", house.say('a'), FULL);
        checks.due("a sign outside", house.say(127), OUTSIDE);
        checks.due("how many", house.told(0), 40);
        house.quilt(4, 4);
        checks.due("a larger quilt makes no room", house.say('a'), FULL);
    }

    // ---- 4: "Signs go: how many there were."

    private static void wipe() {
        checks.promise(4, "wipe");
        QuiltHouse house = new QuiltHouse();
        checks.due("an empty pad", house.wipe(), 0);
        house.say('z');
        checks.due("one sign", house.wipe(), 1);
        for (int i = 0; i < 40; i++) {
            house.say('z');
        }
        checks.due("a full pad", house.wipe(), 40);
        checks.due("it is empty then", house.told(0), 0);
        checks.due("none go twice", house.wipe(), 0);
        checks.due("the fault of an empty pad", house.fault(), 0);
        for (int i = 1; i <= 40; i++) {
            checks.due("the sign " + i + " anew", house.say('a'), i);
        }
        checks.due("and no more", house.say('a'), FULL);
        house.wipe();
        Checks.say(house, "abcd.....");
        checks.due("what was wiped is not laid", house.lay(), 4);
        Checks.say(house, "a");
        checks.due("nor is what was laid", house.fault(), 1);
        checks.due("squares", house.told(3), 15);
        QuiltHouse lain = Checks.sewn(1, 2, "ab");
        lain.say('c');
        lain.wipe();
        toldAre("nothing else goes", lain, 0, 1, 2, 3, 1, 2, 2, 1);
    }

    // ---- 5: "the place of the first sign that can not stand there, or the number of signs, if more must come"; NONE

    private static void faultIs(int rows, int columns, String text, int want) {
        QuiltHouse house = bare(rows, columns);
        Checks.say(house, text);
        checks.due(rows + " by " + columns + ", fault of \"" + text + "\"", house.fault(), want);
        checks.due("the pad stays", house.told(0), text.length());
        checks.due("lay() of \"" + text + "\"", house.lay() == NO ? 1 : 0, want == NONE ? 0 : 1);
    }

    private static void faultOfLength() {
        checks.promise(5, "fault");
        for (int rows = 1; rows <= 4; rows++) {
            for (int columns = 1; columns <= 4; columns++) {
                int places = rows * columns;
                faultIs(rows, columns, "", 0);
                faultIs(rows, columns, "d".repeat(places - 1), places - 1);
                faultIs(rows, columns, ".".repeat(places), NONE);
                faultIs(rows, columns, "a".repeat(places), NONE);
                faultIs(rows, columns, "a".repeat(places) + ".", places);
                faultIs(rows, columns, "a".repeat(40), places);
            }
        }
    }

    private static void faultOfSigns() {
        for (int sign = 33; sign <= 126; sign++) {
            boolean stands = sign == 'a' || sign == 'b' || sign == 'c' || sign == 'd' || sign == '.';
            faultIs(1, 1, "" + (char) sign, stands ? NONE : 0);
            faultIs(2, 2, "abc" + (char) sign, stands ? NONE : 3);
            faultIs(2, 2, "a" + (char) sign, stands ? 2 : 1);
            faultIs(1, 1, "a" + (char) sign, 1);
        }
        faultIs(2, 2, "eeee", 0);
        faultIs(2, 2, "aeeee", 1);
        faultIs(2, 2, "aaaae", 4);
        faultIs(2, 2, "aaaaa!", 4);
        faultIs(4, 4, "abcdabcdabcdabc~", 15);
        faultIs(4, 4, "abcdabcdabcdabcd~", 16);
    }

    // ---- 6: "The PAD becomes the QUILT (it is empty then), nothing SEWN: SQUARES. NO: there is a FAULT."

    private static void lay() {
        checks.promise(6, "lay");
        QuiltHouse house = Checks.sewn(4, 4, SIXTEEN);
        house.foes(0, 1, true);
        house.image(0);
        house.set(2, 4);
        Checks.say(house, "................");
        checks.due("none", house.lay(), 0);
        toldAre("none lie there, nothing is sewn", house, 0, 4, 4, 0, 1, 2, 4, 0);
        checks.due("the pad is empty then", house.lay(), NO);
        Checks.say(house, "dddddddddddddddd");
        checks.due("a full quilt", house.lay(), 16);
        toldAre("all lie there, nothing is sewn", house, 0, 4, 4, 65535, 1, 2, 4, 0);
        Checks.say(house, "a..............b");
        checks.due("the first and the last", house.lay(), 2);
        toldAre("those alone", house, 0, 4, 4, 32769, 1, 2, 4, 0);
        checks.due("at the first place", house.family(0), 0);
        checks.due("at the last place", house.family(15), 1);
        Checks.say(house, "abab............");
        checks.due("foes may lie side by side", house.lay(), 4);
        checks.due("and stay foes", house.sew(0, 1), NO);
        checks.due("the image stays", house.restore(0), 1);
        checks.due("as it was", house.told(3), 65535);
        QuiltHouse one = Checks.laid(1, 1, "c");
        checks.due("one place", one.family(0), 2);
        one.say('.');
        checks.due("none at one place", one.lay(), 0);
        checks.due("it is gone", one.family(0), NONE);
    }

    private static void layRefused() {
        String[] faulty = {"", "abc", "abcda", "abce", "Abcd", "abcd."};
        for (String text : faulty) {
            QuiltHouse house = Checks.sewn(2, 2, "dcba");
            Checks.say(house, text);
            checks.due("lay() of \"" + text + "\"", house.lay(), NO);
            toldAre("\"" + text + "\" changes nothing", house, text.length(), 2, 2, 15, 1, 2, 2, 4);
            checks.due("families stay", house.family(0), 3);
        }
    }

    // ---- 7: "FAMILY of a SQUARE (0 on); NONE: there is none. UNKNOWN: the PLACE."

    private static void family() {
        checks.promise(7, "family");
        for (int rows = 1; rows <= 4; rows++) {
            for (int columns = 1; columns <= 4; columns++) {
                int places = rows * columns;
                QuiltHouse house = Checks.laid(rows, columns, SIXTEEN.substring(0, places));
                checks.due("the first place", house.family(0), 0);
                checks.due("the last place", house.family(places - 1), (places - 1) % 4);
                checks.due("behind the last place", house.family(places), UNKNOWN);
                checks.due("ahead of the first place", house.family(-1), UNKNOWN);
                house.death(places - 1);
                checks.due("no square at the last place", house.family(places - 1), NONE);
            }
        }
    }

    // ---- 8: "FAMILIES are FOES (foes true), or not: 1. (SEWN SEAMS of theirs are unpicked.) UNKNOWN."

    private static void foesOfEachPair() {
        checks.promise(8, "foes");
        for (int family = 0; family < 4; family++) {
            for (int other = 0; other < 4; other++) {
                String pair = family + ", " + other;
                QuiltHouse house = new QuiltHouse();
                checks.due("foes(" + pair + ", true)", house.foes(family, other, true), 1);
                checks.due("foes(" + pair + ", true) again", house.foes(family, other, true), 1);
                onlyFoes(house, family, other);
                checks.due("foes(" + pair + ", false)", house.foes(other, family, false), 1);
                checks.due("foes(" + pair + ", false) again", house.foes(other, family, false), 1);
                onlyFoes(house, -1, -1);
            }
        }
    }

    /** Whether these two are foes, either way round, and no others. */
    private static void onlyFoes(QuiltHouse house, int family, int other) {
        for (int first = 0; first < 4; first++) {
            for (int second = 0; second < 4; second++) {
                boolean foes = first == family && second == other || first == other && second == family;
                house.quilt(1, 2);
                house.birth(0, first);
                String which = first + " and " + second + ", foes are " + family + " and " + other;
                checks.due(which, house.birth(1, second), foes ? 0 : 1);
            }
        }
    }

    private static void foesEdges() {
        QuiltHouse house = Checks.sewn(4, 4, SIXTEEN);
        checks.due("all is sewn", house.told(7), 24);
        house.foes(0, 3, true);
        checks.due("those are no neighbours: all stays sewn", house.told(7), 24);
        house.foes(2, 3, true);
        checks.due("four in rows are unpicked", house.told(7), 20);
        checks.due("their squares stay", house.told(3), 65535);
        house.foes(3, 3, true);
        checks.due("three in the last column are unpicked", house.told(7), 17);
        house.foes(3, 2, false);
        house.foes(3, 3, false);
        checks.due("nothing is sewn when they are friends", house.told(7), 17);
        checks.due("but it can be", house.sew(15, 14), 2);
        for (int family = 0; family < 4; family++) {
            for (int other = 0; other < 4; other++) {
                house.foes(family, other, true);
            }
        }
        checks.due("all foes: nothing is sewn", house.told(7), 0);
        checks.due("all foes: each is a piece", house.pieces(-1), 16);
    }

    // ---- 9: "KIN (which = 0), OTHER (1), NEED (2): which it was. OUTSIDE."

    private static void set() {
        checks.promise(9, "set");
        int[] most = {99, 99, 4};
        int[] first = {1, 2, 2};
        for (int which = 0; which < 3; which++) {
            QuiltHouse house = new QuiltHouse();
            String call = "set(" + which + ", ..)";
            checks.due(call + " was", house.set(which, 0), first[which]);
            checks.due(call + " is the least", house.told(4 + which), 0);
            checks.due(call + " below the least", house.set(which, -1), OUTSIDE);
            checks.due(call + " was the least", house.set(which, most[which]), 0);
            checks.due(call + " is the most", house.told(4 + which), most[which]);
            checks.due(call + " above the most", house.set(which, most[which] + 1), OUTSIDE);
            checks.due(call + " was the most", house.set(which, 1), most[which]);
            for (int beside = 0; beside < 3; beside++) {
                int due = beside == which ? 1 : first[beside];
                checks.due(call + " leaves the others", house.told(4 + beside), due);
            }
        }
        checks.due("none below KIN", new QuiltHouse().set(-1, 1), OUTSIDE);
        checks.due("none above NEED", new QuiltHouse().set(3, 1), OUTSIDE);
    }

    private static void setIsUsed() {
        QuiltHouse house = Checks.sewn(1, 3, "aab");
        house.set(0, 0);
        house.set(1, 99);
        checks.due("no thread for kin, the most for others", house.spent(), 99);
        house.set(0, 99);
        house.set(1, 0);
        checks.due("the most for kin, none for others", house.spent(), 99);
        house.set(2, 0);
        checks.due("no need", house.cold(), 0);
        house.set(2, 4);
        checks.due("the most need", house.cold(), 7);
    }

    // ---- 10: "A SEAM is SEWN: its THREAD. UNKNOWN: PLACES; STATE: no NEIGHBOURS, no SQUARE, it is SEWN; NO: FOES."
    // ---- 11: "A SEAM is unpicked: its THREAD. UNKNOWN; STATE: it is not SEWN."

    private static void sewAndUnpickOfEachPair() {
        for (int rows = 1; rows <= 4; rows++) {
            for (int columns = 1; columns <= 4; columns++) {
                int places = rows * columns;
                for (int place = -1; place <= places; place++) {
                    eachPairWith(rows, columns, place);
                }
            }
        }
    }

    private static void eachPairWith(int rows, int columns, int place) {
        int places = rows * columns;
        QuiltHouse house = Checks.laid(rows, columns, "c".repeat(places));
        for (int other = -1; other <= places; other++) {
            boolean known = place >= 0 && place < places && other >= 0 && other < places;
            int apart = Math.abs(place / columns - other / columns) + Math.abs(place % columns - other % columns);
            String pair = "(" + place + ", " + other + ") in " + rows + " by " + columns;
            int due = !known ? UNKNOWN : apart == 1 ? 1 : STATE;
            checks.promise(10, "sew");
            checks.due("sew" + pair, house.sew(place, other), due);
            checks.due("sew" + pair + " again", house.sew(other, place), known ? STATE : UNKNOWN);
            checks.due("seams" + pair, house.told(7), due == 1 ? 1 : 0);
            checks.promise(11, "unpick");
            checks.due("unpick" + pair, house.unpick(other, place), due);
            checks.due("unpick" + pair + " again", house.unpick(place, other), known ? STATE : UNKNOWN);
            checks.due("no seams" + pair, house.told(7), 0);
        }
    }

    private static void sewByItsThread() {
        checks.promise(10, "sew");
        int[] threads = {0, 1, 98, 99};
        for (int kin : threads) {
            for (int other : threads) {
                QuiltHouse house = Checks.laid(1, 3, "aab");
                house.set(0, kin);
                house.set(1, other);
                checks.due("thread of kin", house.sew(0, 1), kin);
                checks.due("thread of others", house.sew(1, 2), other);
                house.set(0, other);
                house.set(1, kin);
                checks.due("thread of kin as it is then", house.unpick(0, 1), other);
                checks.due("thread of others as it is then", house.unpick(1, 2), kin);
            }
        }
    }

    private static void sewRefused() {
        QuiltHouse house = Checks.laid(2, 2, "ab.a");
        checks.due("no square at the second", house.sew(0, 2), STATE);
        checks.due("no square at the first", house.sew(2, 3), STATE);
        house.foes(0, 1, true);
        checks.due("foes", house.sew(0, 1), NO);
        checks.due("foes, the other way round", house.sew(1, 0), NO);
        checks.due("foes in a column", house.sew(3, 1), NO);
        checks.due("UNKNOWN ahead of STATE", house.sew(2, 4), UNKNOWN);
        checks.due("UNKNOWN ahead of STATE, the other way round", house.sew(-1, 2), UNKNOWN);
        house.birth(2, 1);
        checks.due("STATE ahead of NO: no neighbours", house.sew(0, 3), STATE);
        house.foes(0, 0, true);
        checks.due("STATE ahead of NO: no neighbours of one family", house.sew(0, 3), STATE);
        checks.due("STATE ahead of NO: itself", house.sew(0, 0), STATE);
        checks.due("nothing is sewn", house.told(7), 0);
    }

    private static void unpick() {
        checks.promise(11, "unpick");
        QuiltHouse house = Checks.sewn(4, 4, "aaaaaaaaaaaaaaaa");
        int seams = 24;
        for (int place = 0; place < 16; place++) {
            if (place % 4 < 3) {
                seams--;
                checks.due("beside " + place, house.unpick(place, place + 1), 1);
            }
            if (place < 12) {
                seams--;
                checks.due("below " + place, house.unpick(place + 4, place), 1);
            }
            checks.due("seams after " + place, house.told(7), seams);
        }
        checks.due("no more to unpick", house.unpick(0, 1), STATE);
        checks.due("squares stay", house.told(3), 65535);
        checks.due("UNKNOWN ahead of STATE", house.unpick(16, 16), UNKNOWN);
        checks.due("ahead of the first", house.unpick(-1, -1), UNKNOWN);
        checks.due("one sewn anew", house.sew(0, 1), 1);
        checks.due("and unpicked anew", house.unpick(0, 1), 1);
    }

    // ---- 12: "A SQUARE of a FAMILY is born, SEWN to all NEIGHBOURS but FOES: SEAMS. UNKNOWN; STATE: there is one."

    private static void birth() {
        checks.promise(12, "birth");
        int[] seams = {2, 3, 2, 3, 4, 3, 2, 3, 2};
        for (int place = 0; place < 9; place++) {
            StringBuilder text = new StringBuilder("aaaaaaaaa");
            text.setCharAt(place, '.');
            QuiltHouse house = Checks.laid(3, 3, text.toString());
            checks.due("amid all others, at " + place, house.birth(place, 3), seams[place]);
            checks.due("it lies there", house.family(place), 3);
            checks.due("seams", house.told(7), seams[place]);
            checks.due("there is one", house.birth(place, 3), STATE);
            QuiltHouse alone = new QuiltHouse();
            checks.due("alone at " + place, alone.birth(place, 0), 0);
            checks.due("the square", alone.told(3), 1 << place);
        }
        checks.due("the only place", bare(1, 1).birth(0, 0), 0);
        checks.due("the last of sixteen", bare(4, 4).birth(15, 3), 0);
        checks.due("behind the last", bare(4, 4).birth(16, 3), UNKNOWN);
        checks.due("UNKNOWN ahead of STATE", Checks.laid(1, 1, "a").birth(0, 4), UNKNOWN);
        checks.due("UNKNOWN ahead of STATE, below", Checks.laid(1, 1, "a").birth(0, -1), UNKNOWN);
        QuiltHouse full = Checks.laid(4, 4, SIXTEEN);
        for (int place = 0; place < 16; place++) {
            checks.due("a full quilt at " + place, full.birth(place, 0), STATE);
        }
        checks.due("sewn to its own seams alone", full.told(7), 0);
    }

    private static void birthAmongFoes() {
        QuiltHouse house = Checks.laid(3, 3, ".a.b.c.d.");
        for (int other = 0; other < 4; other++) {
            house.foes(2, other, true);
            checks.due("foes so far: " + (other + 1), house.birth(4, 2), 3 - other);
            checks.due("unpicked by death", house.death(4), 3 - other);
        }
        checks.due("one of another family", house.birth(4, 1), 3);
        checks.due("is not sewn to a foe", house.sew(4, 5), NO);
    }

    // ---- 13: "A SQUARE goes, its SEAMS unpicked: how many. UNKNOWN; STATE: there is none."

    private static void death() {
        checks.promise(13, "death");
        int[] seams = {2, 3, 2, 3, 4, 3, 2, 3, 2};
        for (int place = 0; place < 9; place++) {
            QuiltHouse house = Checks.sewn(3, 3, "abcdabcda");
            checks.due("sewn to all, at " + place, house.death(place), seams[place]);
            checks.due("its seams are unpicked", house.told(7), 12 - seams[place]);
            checks.due("it is gone", house.family(place), NONE);
            checks.due("it alone", house.told(3), 511 - (1 << place));
            checks.due("there is none", house.death(place), STATE);
            checks.due("sewn to nothing, at " + place, Checks.laid(3, 3, "abcdabcda").death(place), 0);
        }
        QuiltHouse house = Checks.sewn(1, 2, "ab");
        checks.due("the first of two", house.death(0), 1);
        checks.due("the last of all", house.death(1), 0);
        toldAre("nobody is left", house, 0, 1, 2, 0, 1, 2, 2, 0);
        checks.due("none is left", house.death(1), STATE);
        checks.due("behind the last", house.death(2), UNKNOWN);
        checks.due("ahead of the first", house.death(-1), UNKNOWN);
        checks.due("one can be born there", house.birth(0, 2), 0);
        checks.due("and is another", house.family(0), 2);
    }
}
