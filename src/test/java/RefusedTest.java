import java.util.ArrayList;
import java.util.List;
import java.util.function.Supplier;

/**
 * Refusals, promise by promise: each answers what the document gives it, the first that fits where several do,
 * and changes nothing. Each call is made on a quilt whose twin is left alone; then the two must show the same.
 */
public final class RefusedTest {
    private static final int UNKNOWN = -1, OUTSIDE = -2, STATE = -3, FULL = -4, NO = -5;
    private static final int LEAST = Integer.MIN_VALUE, MOST = Integer.MAX_VALUE;
    private static final Checks checks = new Checks();

    interface Call {
        long on(QuiltHouse house);
    }

    private final String quilt;
    private final Supplier<QuiltHouse> made;
    private final List<String> asMade;
    private int promise = 0;

    private RefusedTest(String quilt, Supplier<QuiltHouse> made) {
        this.quilt = quilt;
        this.made = made;
        this.asMade = Looks.of(made.get());
    }

    public static void main(String[] args) {
        List<RefusedTest> quilts = new ArrayList<>();
        quilts.add(new RefusedTest("a new object", QuiltHouse::new));
        quilts.add(new RefusedTest("a bare quilt", RefusedTest::bare));
        quilts.add(new RefusedTest("one square", RefusedTest::one));
        quilts.add(new RefusedTest("a quilt with holes", RefusedTest::holes));
        quilts.add(new RefusedTest("a full quilt", RefusedTest::full));
        for (RefusedTest test : quilts) {
            test.everywhere();
            test.asked();
        }
        quilts.get(0).onNewObject();
        quilts.get(1).onBare();
        quilts.get(2).onOne();
        quilts.get(3).onHoles();
        quilts.get(4).onFull();
        checks.end();
    }

    // ---- the quilts

    private static QuiltHouse bare() {
        QuiltHouse house = new QuiltHouse();
        house.quilt(2, 3);
        house.set(0, 5);
        house.set(1, 6);
        house.set(2, 1);
        house.foes(0, 0, true);
        Checks.say(house, "ab.x");
        return house;
    }

    private static QuiltHouse one() {
        QuiltHouse house = Checks.laid(1, 1, "d");
        house.say('c');
        house.image(1);
        house.foes(3, 3, true);
        return house;
    }

    private static QuiltHouse holes() {
        QuiltHouse house = Checks.laid(3, 3, "ab.abc.dd");
        house.sew(0, 3);
        house.sew(0, 1);
        house.sew(3, 4);
        house.sew(5, 8);
        house.image(0);
        house.foes(1, 2, true);
        house.foes(3, 3, true);
        Checks.say(house, "abcd....a");
        return house;
    }

    private static QuiltHouse full() {
        QuiltHouse house = Checks.sewn(4, 4, "aabbccddaabbccdd");
        house.set(0, 3);
        house.image(0);
        house.foes(0, 1, true);
        house.set(2, 3);
        house.image(1);
        for (int i = 0; i < 40; i++) {
            house.say('a' + i % 4);
        }
        return house;
    }

    // ---- what is done with them

    private void stays(String call, Call done) {
        QuiltHouse house = made.get();
        done.on(house);
        String other = Looks.difference(Looks.of(house), asMade);
        checks.fine(quilt + ": " + call + " changes nothing" + (other.isEmpty() ? "" : ": " + other), other.isEmpty());
    }

    private void refused(int due, String call, Call done) {
        checks.promise(promise, call);
        checks.due(quilt + ": " + call, done.on(made.get()), due);
        stays(call, done);
    }

    private void promise(int number) {
        promise = number;
    }

    private static int places(QuiltHouse house) {
        return house.told(1) * house.told(2);
    }

    /** Beside the least and the greatest that are allowed, far off, and where bits or small numbers wrap around. */
    private static int[] beside(int least, int most) {
        return new int[] {least - 1, most + 1, LEAST, MOST, least - 32, least + 32, least + 256, least + 65536};
    }

    private void everywhere() {
        quilts();
        unknownPlaces();
        unknownFamilies();
        numbers();
        sleepers();
        draws();
    }

    private void quilts() {
        promise(2);
        for (int side : beside(1, 4)) {
            refused(OUTSIDE, "quilt(" + side + ", 1)", h -> h.quilt(side, 1));
            refused(OUTSIDE, "quilt(4, " + side + ")", h -> h.quilt(4, side));
            refused(OUTSIDE, "quilt(" + side + ", " + side + ")", h -> h.quilt(side, side));
        }
        promise(3);
        for (int sign : new int[] {32, 127, 0, -1, LEAST, MOST, 97 + 65536, 97 - 256, 33 - 65536}) {
            refused(OUTSIDE, "say(" + sign + ")", h -> h.say(sign));
        }
    }

    private void unknownPlaces() {
        for (int place : beside(0, places(made.get()) - 1)) {
            promise(7);
            refused(UNKNOWN, "family(" + place + ")", h -> h.family(place));
            promise(10);
            refused(UNKNOWN, "sew(" + place + ", 0)", h -> h.sew(place, 0));
            refused(UNKNOWN, "sew(0, " + place + ")", h -> h.sew(0, place));
            refused(UNKNOWN, "sew(" + place + ", itself)", h -> h.sew(place, place));
            promise(11);
            refused(UNKNOWN, "unpick(" + place + ", 0)", h -> h.unpick(place, 0));
            refused(UNKNOWN, "unpick(0, " + place + ")", h -> h.unpick(0, place));
            refused(UNKNOWN, "unpick(" + place + ", itself)", h -> h.unpick(place, place));
            promise(12);
            refused(UNKNOWN, "birth(" + place + ", 0)", h -> h.birth(place, 0));
            refused(UNKNOWN, "birth(" + place + ", 4)", h -> h.birth(place, 4));
            promise(13);
            refused(UNKNOWN, "death(" + place + ")", h -> h.death(place));
            promise(14);
            if (place != -1) {
                refused(UNKNOWN, "pieces(" + place + ")", h -> h.pieces(place));
            }
            promise(22);
            refused(UNKNOWN, "placed(1, 0, 0, 0, " + place + ")", h -> h.placed(1, 0, 0, 0, place));
            refused(UNKNOWN, "placed(9, 0, 0, -1, " + place + ")", h -> h.placed(9, 0, 0, -1, place));
        }
        promise(14);
        refused(UNKNOWN, "pieces(-2)", h -> h.pieces(-2));
        int last = places(made.get()) - 1;
        promise(10);
        refused(UNKNOWN, "sew(the last, behind it)", h -> h.sew(last, last + 1));
        refused(UNKNOWN, "sew(0, above it)", h -> h.sew(0, -h.told(2)));
        refused(UNKNOWN, "sew(the last, below it)", h -> h.sew(last, last + h.told(2)));
        promise(11);
        refused(UNKNOWN, "unpick(the last, behind it)", h -> h.unpick(last, last + 1));
        refused(UNKNOWN, "unpick(the last, below it)", h -> h.unpick(last, last + h.told(2)));
    }

    private void unknownFamilies() {
        for (int family : beside(0, 3)) {
            promise(8);
            for (boolean foes : new boolean[] {true, false}) {
                refused(UNKNOWN, "foes(" + family + ", 0, " + foes + ")", h -> h.foes(family, 0, foes));
                refused(UNKNOWN, "foes(3, " + family + ", " + foes + ")", h -> h.foes(3, family, foes));
                refused(UNKNOWN, "foes(" + family + ", itself, " + foes + ")", h -> h.foes(family, family, foes));
            }
            promise(12);
            int last = places(made.get()) - 1;
            refused(UNKNOWN, "birth(0, " + family + ")", h -> h.birth(0, family));
            refused(UNKNOWN, "birth(" + last + ", " + family + ")", h -> h.birth(last, family));
            promise(19);
            refused(UNKNOWN, "patch(" + family + ", 0)", h -> h.patch(family, 0));
            refused(UNKNOWN, "patch(" + family + ", 1)", h -> h.patch(family, 1));
            refused(UNKNOWN, "patch(" + family + ", -1)", h -> h.patch(family, -1));
            refused(UNKNOWN, "patch(" + family + ", 2)", h -> h.patch(family, 2));
        }
    }

    private void numbers() {
        promise(9);
        for (int which : beside(0, 2)) {
            refused(OUTSIDE, "set(" + which + ", 0)", h -> h.set(which, 0));
            refused(OUTSIDE, "set(" + which + ", 100)", h -> h.set(which, 100));
        }
        for (int thread : new int[] {-1, 100, LEAST, MOST, 1 - 65536, 1 + 65536}) {
            refused(OUTSIDE, "set(0, " + thread + ")", h -> h.set(0, thread));
            refused(OUTSIDE, "set(1, " + thread + ")", h -> h.set(1, thread));
        }
        for (int need : new int[] {-1, 5, 99, LEAST, MOST, 32, 256}) {
            refused(OUTSIDE, "set(2, " + need + ")", h -> h.set(2, need));
        }
        for (int what : beside(0, 1)) {
            promise(19);
            refused(OUTSIDE, "patch(0, " + what + ")", h -> h.patch(0, what));
            refused(OUTSIDE, "patch(3, " + what + ")", h -> h.patch(3, what));
            promise(20);
            refused(OUTSIDE, "wash(0, " + what + ")", h -> h.wash(0, what));
            refused(OUTSIDE, "wash(15, " + what + ")", h -> h.wash(15, what));
            promise(24);
            refused(OUTSIDE, "could(" + what + ")", h -> h.could(what));
            promise(27);
            refused(OUTSIDE, "image(" + what + ")", h -> h.image(what));
            promise(28);
            refused(OUTSIDE, "restore(" + what + ")", h -> h.restore(what));
        }
        promise(20);
        for (int d : beside(0, 15)) {
            refused(OUTSIDE, "wash(" + d + ", 0)", h -> h.wash(d, 0));
            refused(OUTSIDE, "wash(" + d + ", 1)", h -> h.wash(d, 1));
            refused(OUTSIDE, "wash(" + d + ", 2)", h -> h.wash(d, 2));
        }
        promise(29);
        for (int what : beside(0, 7)) {
            refused(OUTSIDE, "told(" + what + ")", h -> h.told(what));
        }
    }

    /** OUTSIDE is due on a quilt of more than nine places, too: it comes ahead of FULL. */
    private void sleepers() {
        for (int n : beside(0, 8)) {
            outside(n, 0, 0, 0);
            outside(0, n, 0, 0);
            outside(0, 0, n, 0);
            outside(0, 0, 0, n);
        }
        int[][] crowds = {{8, 1, 0, 0}, {1, 8, 0, 0}, {0, 0, 8, 1}, {0, 0, 1, 8}, {3, 2, 2, 2}, {2, 2, 2, 3},
            {8, 8, 8, 8}, {-1, 1, 0, 0}, {1, -1, 0, 0}, {0, 1, -1, 0}, {1, 0, 0, -1}, {9, -1, 0, 0}, {0, 0, -1, 9}, {-8, 8, 0, 0},
            {MOST, MOST, 1, 1}, {MOST, MOST, 2, 0}, {LEAST, LEAST, 0, 0}, {LEAST, MOST, 1, 0},
            {1 << 30, 1 << 30, 1 << 30, 1 << 30}};
        for (int[] crowd : crowds) {
            outside(crowd[0], crowd[1], crowd[2], crowd[3]);
        }
    }

    private void outside(int a, int b, int c, int d) {
        String crowd = a + ", " + b + ", " + c + ", " + d;
        int last = places(made.get()) - 1;
        promise(21);
        refused(OUTSIDE, "placings(" + crowd + ")", h -> h.placings(a, b, c, d));
        promise(22);
        refused(OUTSIDE, "placed(" + crowd + ", 0)", h -> h.placed(a, b, c, d, 0));
        refused(OUTSIDE, "placed(" + crowd + ", the last)", h -> h.placed(a, b, c, d, last));
    }

    private void draws() {
        promise(26);
        for (int seed : new int[] {-1, 10000, LEAST, MOST, 65537}) {
            refused(OUTSIDE, "years(" + seed + ", 1, 0)", h -> h.years(seed, 1, 0));
            refused(OUTSIDE, "years(" + seed + ", 99, 3)", h -> h.years(seed, 99, 3));
        }
        for (int n : new int[] {0, 100, -1, LEAST, MOST}) {
            refused(OUTSIDE, "years(0, " + n + ", 0)", h -> h.years(0, n, 0));
            refused(OUTSIDE, "years(9999, " + n + ", 3)", h -> h.years(9999, n, 3));
        }
        for (int what : beside(0, 3)) {
            refused(OUTSIDE, "years(0, 1, " + what + ")", h -> h.years(0, 1, what));
            refused(OUTSIDE, "years(9999, 99, " + what + ")", h -> h.years(9999, 99, what));
        }
    }

    /** Calls that only ask: they change nothing, either. */
    private void asked() {
        checks.promise(0, "calls that ask");
        int last = places(made.get()) - 1;
        stays("fault()", h -> h.fault());
        stays("family(0)", h -> h.family(0));
        stays("pieces(-1)", h -> h.pieces(-1));
        stays("pieces(0)", h -> h.pieces(0));
        stays("cold()", h -> h.cold());
        stays("spent()", h -> h.spent());
        stays("parts()", h -> h.parts());
        stays("grown()", h -> h.grown());
        for (int i : new int[] {-2, -1, 0, 1, last}) {
            stays("whole(" + i + ")", h -> h.whole(i));
        }
        for (int what : new int[] {0, 1}) {
            stays("patch(1, " + what + ")", h -> h.patch(1, what));
            stays("wash(0, " + what + ")", h -> h.wash(0, what));
            stays("wash(15, " + what + ")", h -> h.wash(15, what));
            stays("could(" + what + ")", h -> h.could(what));
        }
        stays("placings(1, 1, 1, 1)", h -> h.placings(1, 1, 1, 1));
        stays("placed(1, 1, 0, 0, the last)", h -> h.placed(1, 1, 0, 0, last));
        for (int what = 0; what < 8; what++) {
            int of = what;
            stays("told(" + of + ")", h -> h.told(of));
            stays("years(77, 99, " + of % 4 + ")", h -> h.years(77, 99, of % 4));
        }
    }

    // ---- refusals of one quilt alone

    private void imageWasNotKept(int n) {
        promise(28);
        refused(STATE, "restore(" + n + ")", h -> h.restore(n));
    }

    private void noSquareAt(int place) {
        promise(13);
        refused(STATE, "death(" + place + ")", h -> h.death(place));
        promise(14);
        refused(STATE, "pieces(" + place + ")", h -> h.pieces(place));
    }

    private void squareAt(int place) {
        promise(12);
        for (int family = 0; family < 4; family++) {
            int of = family;
            refused(STATE, "birth(" + place + ", " + of + ")", h -> h.birth(place, of));
        }
    }

    private void cannotSew(int due, int place, int other) {
        promise(10);
        refused(due, "sew(" + place + ", " + other + ")", h -> h.sew(place, other));
        refused(due, "sew(" + other + ", " + place + ")", h -> h.sew(other, place));
    }

    private void cannotUnpick(int place, int other) {
        promise(11);
        refused(STATE, "unpick(" + place + ", " + other + ")", h -> h.unpick(place, other));
        refused(STATE, "unpick(" + other + ", " + place + ")", h -> h.unpick(other, place));
    }

    private void cannotLay() {
        promise(6);
        refused(NO, "lay()", h -> h.lay());
    }

    private void onNewObject() {
        cannotLay();
        imageWasNotKept(0);
        imageWasNotKept(1);
        for (int place = 0; place < 9; place++) {
            noSquareAt(place);
        }
        cannotSew(STATE, 0, 1);
        cannotSew(STATE, 5, 8);
        cannotSew(STATE, 4, 4);
        cannotUnpick(0, 1);
        cannotUnpick(5, 8);
        cannotUnpick(8, 8);
    }

    private void onBare() {
        cannotLay();
        imageWasNotKept(0);
        imageWasNotKept(1);
        noSquareAt(0);
        noSquareAt(5);
        cannotSew(STATE, 0, 3);
        cannotUnpick(0, 3);
    }

    private void onOne() {
        squareAt(0);
        imageWasNotKept(0);
        cannotSew(STATE, 0, 0);
        cannotUnpick(0, 0);
    }

    private void onHoles() {
        noSquareAt(2);
        noSquareAt(6);
        squareAt(0);
        squareAt(8);
        imageWasNotKept(1);
        cannotSew(STATE, 0, 3); // sewn
        cannotSew(STATE, 1, 2); // a hole
        cannotSew(STATE, 2, 2); // a hole with itself
        cannotSew(STATE, 2, 3); // a hole at a row's end and the next row's start
        cannotSew(STATE, 0, 4); // a corner apart
        cannotSew(STATE, 1, 7); // two apart
        cannotSew(STATE, 1, 5); // foes, but no neighbours: STATE comes ahead of NO
        cannotSew(NO, 4, 5); // foes
        cannotSew(NO, 7, 8); // foes of their own family
        cannotUnpick(1, 4); // not sewn
        cannotUnpick(4, 5); // foes
        cannotUnpick(3, 6); // a hole
        cannotUnpick(0, 4); // no neighbours
    }

    private void onFull() {
        cannotLay();
        promise(3);
        refused(FULL, "say(33)", h -> h.say(33));
        refused(FULL, "say(97)", h -> h.say(97));
        refused(FULL, "say(126)", h -> h.say(126));
        refused(OUTSIDE, "say(32) on a full pad", h -> h.say(32));
        refused(OUTSIDE, "say(127) on a full pad", h -> h.say(127));
        for (int place = 0; place < 16; place++) {
            squareAt(place);
        }
        cannotSew(STATE, 0, 1); // sewn
        cannotSew(STATE, 11, 15); // sewn
        cannotSew(STATE, 3, 4); // a row's end and the next one's start
        cannotSew(STATE, 0, 3); // a row's start and its end
        cannotSew(STATE, 0, 12); // a column's start and its end
        cannotSew(NO, 1, 2); // foes
        cannotUnpick(1, 2); // foes
        cannotUnpick(3, 4); // no neighbours
        promise(21);
        refused(FULL, "placings(0, 0, 0, 0)", h -> h.placings(0, 0, 0, 0));
        refused(FULL, "placings(8, 0, 0, 0)", h -> h.placings(8, 0, 0, 0));
        refused(FULL, "placings(2, 2, 2, 2)", h -> h.placings(2, 2, 2, 2));
        promise(22);
        refused(FULL, "placed(0, 0, 0, 0, 0)", h -> h.placed(0, 0, 0, 0, 0));
        refused(FULL, "placed(0, 0, 0, 8, 15)", h -> h.placed(0, 0, 0, 8, 15));
        refused(UNKNOWN, "placed(0, 0, 0, 8, 16)", h -> h.placed(0, 0, 0, 8, 16));
    }
}
