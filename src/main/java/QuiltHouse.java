import java.util.Arrays;

/**
 * A village's one quilt, to which a square is sewn for each birth and unpicked for each death.
 *
 * <p>Sets of places, of squares and of seams are told as bits of an int: bit p stands for the place p.
 */
public final class QuiltHouse {
    public static final int UNKNOWN = -1, OUTSIDE = -2, STATE = -3, FULL = -4, NO = -5, NONE = -6;

    private static final int FAMILIES = 4;
    private static final int LONGEST_SIDE = 4;
    private static final int MOST_PLACES = 16;
    private static final int MOST_SIGNS = 40;
    private static final int FIRST_SIGN = 33, LAST_SIGN = 126;
    private static final int MOST_THREAD = 99;
    private static final int MOST_NEED = 4;
    private static final int MOST_UNLIKE = 15;
    private static final int MOST_SLEEPERS = 8;
    private static final int MOST_BEDS = 9;
    private static final int MOST_SEED = 9999;
    private static final int MOST_YEARS = 99;
    private static final int IMAGES = 2;
    private static final int ANY_NUMBER = 1000000000;

    private final Quilt now = new Quilt();
    private final Quilt trial = new Quilt();
    private final Quilt[] images = new Quilt[IMAGES];
    private final Beds beds = new Beds();
    private final char[] pad = new char[MOST_SIGNS];
    private int signs = 0;
    // As many longs as a quilt has sets of places: made when it is first asked for, then used again.
    private long[] orders = null;

    public QuiltHouse() {
        now.measure(3, 3);
    }

    // ---- 1 quilts

    public int quilt(int rows, int columns) {
        if (!isWithin(rows, 1, LONGEST_SIDE) || !isWithin(columns, 1, LONGEST_SIDE)) {
            return OUTSIDE;
        }
        now.measure(rows, columns);
        return now.places();
    }

    public int say(int sign) {
        if (!isWithin(sign, FIRST_SIGN, LAST_SIGN)) {
            return OUTSIDE;
        }
        if (signs >= pad.length) {
            return FULL;
        }
        pad[signs] = (char) sign;
        signs++;
        return signs;
    }

    public int wipe() {
        int gone = signs;
        signs = 0;
        return gone;
    }

    public int fault() {
        for (int i = 0; i < signs && i < pad.length; i++) {
            if (i >= now.places() || !canStand(pad[i])) {
                return i;
            }
        }
        return signs < now.places() ? signs : NONE;
    }

    public int lay() {
        if (fault() != NONE) {
            return NO;
        }
        now.strip();
        for (int i = 0; i < signs && i < pad.length; i++) {
            now.put(i, pad[i] - 'a');
        }
        signs = 0;
        return Integer.bitCount(now.squares());
    }

    public int family(int place) {
        return now.isPlace(place) ? now.familyAt(place) : UNKNOWN;
    }

    public int foes(int family, int other, boolean foes) {
        if (!isFamily(family) || !isFamily(other)) {
            return UNKNOWN;
        }
        now.setFoes(family, other, foes);
        return 1;
    }

    public int set(int which, int v) {
        if (!isWithin(which, 0, 2) || !isWithin(v, 0, which == 2 ? MOST_NEED : MOST_THREAD)) {
            return OUTSIDE;
        }
        int was;
        if (which == 0) {
            was = now.kin;
            now.kin = v;
        } else if (which == 1) {
            was = now.other;
            now.other = v;
        } else {
            was = now.need;
            now.need = v;
        }
        return was;
    }

    public int sew(int place, int other) {
        if (!now.isPlace(place) || !now.isPlace(other)) {
            return UNKNOWN;
        }
        if (!now.isSeam(place, other) || now.isSewn(place, other)) {
            return STATE;
        }
        if (now.isSeamOfFoes(place, other)) {
            return NO;
        }
        now.join(place, other);
        return now.threadOf(place, other);
    }

    public int unpick(int place, int other) {
        if (!now.isPlace(place) || !now.isPlace(other)) {
            return UNKNOWN;
        }
        if (!now.isSewn(place, other)) {
            return STATE;
        }
        now.loosen(1 << place, 1 << other);
        return now.threadOf(place, other);
    }

    public int birth(int place, int family) {
        if (!now.isPlace(place) || !isFamily(family)) {
            return UNKNOWN;
        }
        if (now.hasSquare(place)) {
            return STATE;
        }
        return now.bear(place, family);
    }

    public int death(int place) {
        if (!now.isPlace(place)) {
            return UNKNOWN;
        }
        if (!now.hasSquare(place)) {
            return STATE;
        }
        return now.bury(place);
    }

    // ---- 2 as it is

    public int pieces(int place) {
        if (place == -1) {
            return now.countPieces(now.squares());
        }
        if (!now.isPlace(place)) {
            return UNKNOWN;
        }
        if (!now.hasSquare(place)) {
            return STATE;
        }
        return now.pieceWith(1 << place, now.squares());
    }

    public int cold() {
        return now.coldSquares();
    }

    public int spent() {
        return now.threadOfAll();
    }

    public int parts() {
        return now.partingSquares();
    }

    // ---- 3 seams, patches, washing

    public int whole(int i) {
        trial.become(now);
        trial.loosenAll();
        int least = Math.min(now.kin, now.other);
        int most = Math.max(now.kin, now.other);
        int first = joinAll(least, 0, i);
        int joined = trial.countSewn();
        int second = joinAll(most, joined, i);
        if (trial.countPieces(trial.squares()) != 1) {
            return NONE;
        }
        if (i == -1) {
            return trial.threadOfAll();
        }
        return first != NONE ? first : second;
    }

    public int patch(int family, int what) {
        if (!isFamily(family)) {
            return UNKNOWN;
        }
        if (!isWithin(what, 0, 1)) {
            return OUTSIDE;
        }
        int best = NONE;
        int fewest = NONE;
        for (int place = 0; place < now.places(); place++) {
            if (!now.hasSquare(place)) {
                trial.become(now);
                trial.bear(place, family);
                int cold = Integer.bitCount(trial.coldSquares());
                if (best == NONE || cold < fewest) {
                    best = place;
                    fewest = cold;
                }
            }
        }
        return what == 0 ? best : fewest;
    }

    public int wash(int d, int what) {
        if (!isWithin(d, 0, MOST_UNLIKE) || !isWithin(what, 0, 1)) {
            return OUTSIDE;
        }
        int squares = now.squares();
        int least = squares & -squares;
        int best = NONE;
        int fewest = NONE;
        // All squares together, the greatest of these numbers, are no part: the other one would be empty.
        for (int part = least; part < squares; part++) {
            if (isPart(part, squares, least) && unlikeness(part, squares) <= d) {
                int between = now.countBetween(part, squares & ~part);
                if (best == NONE || between < fewest) {
                    best = part;
                    fewest = between;
                }
            }
        }
        return what == 0 ? fewest : best;
    }

    // ---- 4 placings, growing, draws

    public int placings(int a, int b, int c, int d) {
        int refusal = refusalOfSleepers(a, b, c, d);
        if (refusal != 0) {
            return refusal;
        }
        beds.gather(a, b, c, d);
        return beds.count(now, ANY_NUMBER);
    }

    public int placed(int a, int b, int c, int d, int place) {
        if (!now.isPlace(place)) {
            return UNKNOWN;
        }
        int refusal = refusalOfSleepers(a, b, c, d);
        if (refusal != 0) {
            return refusal;
        }
        beds.gather(a, b, c, d);
        return beds.count(now, 1) == 0 ? NONE : beds.sleeperAt(place);
    }

    public long grown() {
        int squares = now.squares();
        if (now.countPieces(squares) != 1) {
            return 0;
        }
        long[] row = clearedOrders();
        if (squares >= row.length) {
            return 0;
        }
        for (int first = 0; first < now.places(); first++) {
            if (has(squares, first)) {
                row[1 << first] = 1;
            }
        }
        for (int sewn = 1; sewn < squares; sewn++) {
            if (row[sewn] != 0) {
                int nexts = now.joinedTo(sewn) & squares & ~sewn;
                for (int next = 0; next < now.places(); next++) {
                    if (has(nexts, next)) {
                        row[sewn | 1 << next] += row[sewn];
                    }
                }
            }
        }
        return row[squares];
    }

    public int could(int what) {
        if (!isWithin(what, 0, 1)) {
            return OUTSIDE;
        }
        if (now.countPieces(now.squares()) != 1) {
            return 0;
        }
        return what == 0 ? now.squares() : now.squares() & ~now.partingSquares();
    }

    public int turn() {
        trial.become(now);
        now.becomeTurned(trial);
        return now.places();
    }

    public int years(int seed, int n, int what) {
        if (!isWithin(seed, 0, MOST_SEED) || !isWithin(n, 1, MOST_YEARS) || !isWithin(what, 0, 3)) {
            return OUTSIDE;
        }
        trial.become(now);
        int places = Math.max(1, trial.places());
        int births = 0;
        int x = seed;
        for (int year = 0; year < n; year++) {
            x = (75 * x + 74) % 65537;
            int place = x % places;
            if (trial.hasSquare(place)) {
                trial.bury(place);
            } else {
                trial.bear(place, x / 16 % FAMILIES);
                births++;
            }
        }
        switch (what) {
            case 0:
                return births;
            case 1:
                return n - births;
            case 2:
                return Integer.bitCount(trial.squares());
            default:
                return trial.countPieces(trial.squares());
        }
    }

    public int image(int n) {
        if (!isWithin(n, 0, IMAGES - 1)) {
            return OUTSIDE;
        }
        Quilt image = images[n];
        if (image == null) {
            image = new Quilt();
            images[n] = image;
        }
        image.become(now);
        return 1;
    }

    public int restore(int n) {
        if (!isWithin(n, 0, IMAGES - 1)) {
            return OUTSIDE;
        }
        Quilt image = images[n];
        if (image == null) {
            return STATE;
        }
        now.become(image);
        return 1;
    }

    public int told(int what) {
        switch (what) {
            case 0:
                return signs;
            case 1:
                return now.rows;
            case 2:
                return now.columns;
            case 3:
                return now.squares();
            case 4:
                return now.kin;
            case 5:
                return now.other;
            case 6:
                return now.need;
            case 7:
                return now.countSewn();
            default:
                return OUTSIDE;
        }
    }

    // ---- what the calls share

    private static boolean isWithin(int v, int least, int most) {
        return v >= least && v <= most;
    }

    private static boolean isFamily(int family) {
        return isWithin(family, 0, FAMILIES - 1);
    }

    private static boolean has(int bits, int number) {
        return ((bits >> number) & 1) != 0;
    }

    private static boolean canStand(char sign) {
        return sign == '.' || isFamily(sign - 'a');
    }

    /**
     * Sews in the trial every seam of this thread that joins two pieces, by lesser place, then by
     * greater one; answers the i-th seam, if it is among them, else NONE.
     *
     * <p>A seam that joins no two pieces never will again, so one pass for each thread is enough.
     */
    private int joinAll(int thread, int joinedAhead, int i) {
        int joined = joinedAhead;
        int ith = NONE;
        for (int place = 0; place < trial.places(); place++) {
            for (int step = 0; step < 2; step++) {
                int other = step == 0 ? place + 1 : place + trial.columns;
                if (joinsPieces(place, other) && trial.threadOf(place, other) == thread) {
                    trial.join(place, other);
                    if (joined == i) {
                        ith = 16 * place + other;
                    }
                    joined++;
                }
            }
        }
        return ith;
    }

    private boolean joinsPieces(int place, int other) {
        return trial.isPlace(other)
                && trial.isSeam(place, other)
                && !trial.isSeamOfFoes(place, other)
                && !has(trial.pieceWith(1 << place, trial.squares()), other);
    }

    /** Whether a set is one of squares alone, with the least of them. */
    private static boolean isPart(int part, int squares, int least) {
        return (part & ~squares) == 0 && (part & least) != 0;
    }

    /** By how many the sizes of a part and of all others differ. */
    private static int unlikeness(int part, int squares) {
        return Math.abs(2 * Integer.bitCount(part) - Integer.bitCount(squares));
    }

    /** OUTSIDE or FULL, or 0 if so many sleepers can be asked for. */
    private int refusalOfSleepers(int a, int b, int c, int d) {
        if (!isCrowd(a) || !isCrowd(b) || !isCrowd(c) || !isCrowd(d) || !isCrowd(a + b + c + d)) {
            return OUTSIDE;
        }
        return now.places() > MOST_BEDS ? FULL : 0;
    }

    private static boolean isCrowd(int sleepers) {
        return isWithin(sleepers, 0, MOST_SLEEPERS);
    }

    private long[] clearedOrders() {
        int sets = 1 << Math.min(now.places(), MOST_PLACES);
        long[] row = orders;
        if (row == null || row.length < sets) {
            row = new long[sets];
            orders = row;
        } else {
            Arrays.fill(row, 0L);
        }
        return row;
    }

    /** Squares and seams of one quilt, with the foes and the numbers that are kept in its image. */
    private static final class Quilt {
        int rows = 1;
        int columns = 1;
        int kin = 1;
        int other = 2;
        int need = 2;
        /** Places that have a neighbour to the right, below. */
        private int hasRight = 0;
        private int hasBelow = 0;
        /** Sewn seams, each by its lesser place: to the one right of it, to the one below it. */
        private int right = 0;
        private int down = 0;
        /** Squares by family. */
        private final int[] lying = new int[FAMILIES];
        /** Foes by family. */
        private final int[] hated = new int[FAMILIES];

        void measure(int newRows, int newColumns) {
            rows = newRows;
            columns = newColumns;
            hasRight = 0;
            hasBelow = 0;
            for (int row = 0; row < rows; row++) {
                for (int column = 0; column < columns; column++) {
                    int bit = 1 << (row * columns + column);
                    hasRight |= column + 1 < columns ? bit : 0;
                    hasBelow |= row + 1 < rows ? bit : 0;
                }
            }
            strip();
        }

        void strip() {
            Arrays.fill(lying, 0);
            loosenAll();
        }

        void loosenAll() {
            right = 0;
            down = 0;
        }

        void become(Quilt from) {
            if (from == null) {
                return;
            }
            rows = from.rows;
            columns = from.columns;
            kin = from.kin;
            other = from.other;
            need = from.need;
            hasRight = from.hasRight;
            hasBelow = from.hasBelow;
            right = from.right;
            down = from.down;
            for (int family = 0; family < FAMILIES; family++) {
                lying[family] = from.lying[family];
                hated[family] = from.hated[family];
            }
        }

        /** Takes the squares and the seams of another quilt, turned by a quarter. */
        void becomeTurned(Quilt from) {
            if (from == null) {
                return;
            }
            measure(from.columns, from.rows);
            for (int row = 0; row < from.rows; row++) {
                for (int column = 0; column < from.columns; column++) {
                    int old = row * from.columns + column;
                    int place = column * columns + columns - 1 - row;
                    put(place, from.familyAt(old));
                    if (has(from.right, old)) {
                        down |= 1 << place;
                    }
                    // The lesser place of this seam is now where its lower square has come to lie.
                    if (has(from.down, old)) {
                        right |= 1 << (place - 1);
                    }
                }
            }
        }

        int places() {
            return rows * columns;
        }

        boolean isPlace(int place) {
            return place >= 0 && place < places();
        }

        int squares() {
            int all = 0;
            for (int family = 0; family < FAMILIES; family++) {
                all |= lying[family];
            }
            return all;
        }

        boolean hasSquare(int place) {
            return has(squares(), place);
        }

        int familyAt(int place) {
            for (int family = 0; family < FAMILIES; family++) {
                if (has(lying[family], place)) {
                    return family;
                }
            }
            return NONE;
        }

        /** Lays a square, sewn to nothing; what is no family is none. */
        void put(int place, int family) {
            if (isFamily(family)) {
                lying[family] |= 1 << place;
            }
        }

        /** Foes of a family, as bits; none of what is no family. */
        int foesOf(int family) {
            return isFamily(family) ? hated[family] : 0;
        }

        void setFoes(int family, int with, boolean foes) {
            if (!isFamily(family) || !isFamily(with)) {
                return;
            }
            if (foes) {
                hated[family] |= 1 << with;
                hated[with] |= 1 << family;
                loosen(lying[family], lying[with]);
            } else {
                hated[family] &= ~(1 << with);
                hated[with] &= ~(1 << family);
            }
        }

        /** Neighbours side by side in a row, one in each set, by their lesser places. */
        private int beside(int some, int others) {
            return hasRight & ((some & (others >> 1)) | ((some >> 1) & others));
        }

        /** Neighbours side by side in a column, one in each set, by their lesser places. */
        private int below(int some, int others) {
            return hasBelow & ((some & (others >> columns)) | ((some >> columns) & others));
        }

        boolean isSeam(int place, int with) {
            boolean neighbours = beside(1 << place, 1 << with) != 0 || below(1 << place, 1 << with) != 0;
            return neighbours && hasSquare(place) && hasSquare(with);
        }

        boolean isSewn(int place, int with) {
            return countBetween(1 << place, 1 << with) != 0;
        }

        boolean isSeamOfFoes(int place, int with) {
            int family = familyAt(with);
            return isFamily(family) && has(foesOf(familyAt(place)), family);
        }

        int threadOf(int place, int with) {
            return familyAt(place) == familyAt(with) ? kin : other;
        }

        void join(int place, int with) {
            right |= beside(1 << place, 1 << with);
            down |= below(1 << place, 1 << with);
        }

        void loosen(int some, int others) {
            right &= ~beside(some, others);
            down &= ~below(some, others);
        }

        /** A new square, sewn to all neighbours but foes: how many seams. */
        int bear(int place, int family) {
            int friends = 0;
            for (int with = 0; with < FAMILIES; with++) {
                if (!has(foesOf(family), with)) {
                    friends |= lying[with];
                }
            }
            put(place, family);
            right |= beside(1 << place, friends);
            down |= below(1 << place, friends);
            return Integer.bitCount(joinedTo(1 << place));
        }

        /** A square goes: how many seams go with it. */
        int bury(int place) {
            int seams = Integer.bitCount(joinedTo(1 << place));
            loosen(1 << place, squares());
            for (int family = 0; family < FAMILIES; family++) {
                lying[family] &= ~(1 << place);
            }
            return seams;
        }

        /** Squares to which some square of a set is sewn. */
        int joinedTo(int set) {
            int inRows = ((set & right) << 1) | ((set >> 1) & right);
            int inColumns = ((set & down) << columns) | ((set >> columns) & down);
            return inRows | inColumns;
        }

        /** Places that are neighbours of a place. */
        int around(int place) {
            int bit = 1 << place;
            int inRow = ((bit & hasRight) << 1) | ((bit >> 1) & hasRight);
            int inColumn = ((bit & hasBelow) << columns) | ((bit >> columns) & hasBelow);
            return inRow | inColumn;
        }

        int countBetween(int some, int others) {
            return Integer.bitCount(right & beside(some, others)) + Integer.bitCount(down & below(some, others));
        }

        int countSewn() {
            return Integer.bitCount(right) + Integer.bitCount(down);
        }

        int threadOfAll() {
            int ofKin = 0;
            for (int family = 0; family < FAMILIES; family++) {
                ofKin += countBetween(lying[family], lying[family]);
            }
            return ofKin * kin + (countSewn() - ofKin) * other;
        }

        int coldSquares() {
            int squares = squares();
            int cold = 0;
            for (int place = 0; place < places(); place++) {
                if (has(squares, place) && Integer.bitCount(joinedTo(1 << place)) < need) {
                    cold |= 1 << place;
                }
            }
            return cold;
        }

        /** What hangs together with these squares, if no others lie there than those of a set. */
        int pieceWith(int start, int among) {
            int piece = start & among;
            for (int i = 0; i < MOST_PLACES; i++) {
                int more = piece | (joinedTo(piece) & among);
                if (more == piece) {
                    break;
                }
                piece = more;
            }
            return piece;
        }

        int countPieces(int among) {
            int left = among;
            int count = 0;
            for (int i = 0; i < MOST_PLACES && left != 0; i++) {
                left &= ~pieceWith(left & -left, left);
                count++;
            }
            return count;
        }

        int partingSquares() {
            int squares = squares();
            int pieces = countPieces(squares);
            int parting = 0;
            for (int place = 0; place < places(); place++) {
                if (has(squares, place) && countPieces(squares & ~(1 << place)) > pieces) {
                    parting |= 1 << place;
                }
            }
            return parting;
        }
    }

    /** Sleepers who are laid on a bare quilt, place by place. */
    private static final class Beds {
        /** How many of each family, and of all, have no place yet. */
        private final int[] waiting = new int[FAMILIES];
        private int waitingInAll = 0;
        /** Who lies at each place, a family or NONE, and where anybody lies. */
        private final int[] sleeper = new int[MOST_BEDS];
        private int taken = 0;

        void gather(int a, int b, int c, int d) {
            waiting[0] = a;
            waiting[1] = b;
            waiting[2] = c;
            waiting[3] = d;
            waitingInAll = a + b + c + d;
            Arrays.fill(sleeper, NONE);
            taken = 0;
        }

        /** Counts placings in their order, up to so many. */
        int count(Quilt quilt, int enough) {
            return quilt == null ? 0 : layFrom(quilt, 0, enough);
        }

        /** Who lies at a place in the last placing that was counted, if the count ended there; or NONE. */
        int sleeperAt(int place) {
            return place >= 0 && place < sleeper.length ? sleeper[place] : NONE;
        }

        /**
         * Counts placings of those who wait, on the places from this one on; ends at so many, and then
         * all lie as in the last of them.
         */
        private int layFrom(Quilt quilt, int place, int enough) {
            int placesLeft = quilt.places() - place;
            if (waitingInAll > placesLeft) {
                return 0;
            }
            if (placesLeft <= 0 || place < 0 || place >= sleeper.length) {
                return isLastRowWarm(quilt) ? 1 : 0;
            }
            int found = layNobody(quilt, place, enough);
            int banned = bannedFamilies(quilt, place);
            for (int family = 0; family < FAMILIES && found < enough; family++) {
                if (waiting[family] > 0 && !has(banned, family)) {
                    found += layOne(quilt, place, family, enough - found);
                }
            }
            return found;
        }

        private int layNobody(Quilt quilt, int place, int enough) {
            return isWarm(quilt, place - quilt.columns) ? layFrom(quilt, place + 1, enough) : 0;
        }

        private int layOne(Quilt quilt, int place, int family, int enough) {
            rest(place, family);
            int found = isWarm(quilt, place - quilt.columns) ? layFrom(quilt, place + 1, enough) : 0;
            if (found < enough) {
                rise(place, family);
            }
            return found;
        }

        private void rest(int place, int family) {
            waiting[family]--;
            waitingInAll--;
            sleeper[place] = family;
            taken |= 1 << place;
        }

        private void rise(int place, int family) {
            waiting[family]++;
            waitingInAll++;
            sleeper[place] = NONE;
            taken &= ~(1 << place);
        }

        /** Foes of those who lie to the left and above. */
        private int bannedFamilies(Quilt quilt, int place) {
            int around = quilt.around(place);
            int above = place - quilt.columns;
            int banned = 0;
            if (place > 0 && has(around, place - 1)) {
                banned |= quilt.foesOf(sleeperAt(place - 1));
            }
            return banned | quilt.foesOf(sleeperAt(above));
        }

        /** Whether nobody lies cold at a place all of whose neighbours have been tried; there is nobody at none. */
        private boolean isWarm(Quilt quilt, int place) {
            return place < 0
                    || !has(taken, place)
                    || Integer.bitCount(quilt.around(place) & taken) >= quilt.need;
        }

        private boolean isLastRowWarm(Quilt quilt) {
            int places = quilt.places();
            for (int place = places - quilt.columns; place < places; place++) {
                if (!isWarm(quilt, place)) {
                    return false;
                }
            }
            return true;
        }
    }
}
