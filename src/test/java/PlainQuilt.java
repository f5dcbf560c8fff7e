import java.util.ArrayList;
import java.util.Arrays;
import java.util.HashMap;
import java.util.HashSet;
import java.util.List;
import java.util.Map;
import java.util.Set;
import java.util.TreeSet;

/**
 * The document once more, in the plainest and slowest form, with nothing of the program's own: places are
 * (row, column) pairs, seams are texts in a set, and what is best or how many is found by trying all.
 */
final class PlainQuilt {
    private int rows = 3;
    private int columns = 3;
    private int[] family = new int[9];
    private Set<String> sewn = new TreeSet<>();
    private Set<String> foes = new HashSet<>();
    private int[] numbers = {1, 2, 2};
    private String pad = "";
    private final Map<Integer, PlainQuilt> images = new HashMap<>();

    PlainQuilt() {
        Arrays.fill(family, -6);
    }

    static PlainQuilt ofGrid(int rows, int columns) {
        PlainQuilt plain = new PlainQuilt();
        plain.quilt(rows, columns);
        for (int place = 0; place < rows * columns; place++) {
            plain.birth(place, 0);
        }
        return plain;
    }

    private PlainQuilt copy() {
        PlainQuilt copy = new PlainQuilt();
        copy.takeFrom(this);
        return copy;
    }

    private void takeFrom(PlainQuilt from) {
        rows = from.rows;
        columns = from.columns;
        family = from.family.clone();
        sewn = new TreeSet<>(from.sewn);
        foes = new HashSet<>(from.foes);
        numbers = from.numbers.clone();
    }

    private int all() {
        return rows * columns;
    }

    private boolean place(int place) {
        return 0 <= place && place < all();
    }

    private boolean neighbours(int a, int b) {
        int row = Math.abs(a / columns - b / columns);
        int column = Math.abs(a % columns - b % columns);
        return row + column == 1;
    }

    private String seam(int a, int b) {
        return Math.min(a, b) + "-" + Math.max(a, b);
    }

    private boolean sewnTo(int a, int b) {
        return sewn.contains(seam(a, b));
    }

    private boolean areFoes(int a, int b) {
        return foes.contains(a + " " + b) || foes.contains(b + " " + a);
    }

    private int thread(int a, int b) {
        return family[a] == family[b] ? numbers[0] : numbers[1];
    }

    private List<Integer> squares() {
        List<Integer> squares = new ArrayList<>();
        for (int place = 0; place < all(); place++) {
            if (family[place] >= 0) {
                squares.add(place);
            }
        }
        return squares;
    }

    private static int bits(Iterable<Integer> places) {
        int bits = 0;
        for (int place : places) {
            bits += 1 << place;
        }
        return bits;
    }

    private Set<Integer> piece(int start) {
        Set<Integer> piece = new TreeSet<>();
        List<Integer> queue = new ArrayList<>();
        queue.add(start);
        while (!queue.isEmpty()) {
            int next = queue.remove(0);
            if (piece.add(next)) {
                for (int to : squares()) {
                    if (sewnTo(next, to)) {
                        queue.add(to);
                    }
                }
            }
        }
        return piece;
    }

    private Set<Set<Integer>> allPieces() {
        Set<Set<Integer>> pieces = new HashSet<>();
        for (int square : squares()) {
            pieces.add(piece(square));
        }
        return pieces;
    }

    int quilt(int newRows, int newColumns) {
        if (newRows < 1 || newRows > 4 || newColumns < 1 || newColumns > 4) {
            return -2;
        }
        rows = newRows;
        columns = newColumns;
        family = new int[all()];
        Arrays.fill(family, -6);
        sewn.clear();
        return all();
    }

    int say(int sign) {
        if (sign < 33 || sign > 126) {
            return -2;
        }
        if (pad.length() == 40) {
            return -4;
        }
        pad += (char) sign;
        return pad.length();
    }

    int wipe() {
        int gone = pad.length();
        pad = "";
        return gone;
    }

    int fault() {
        for (int i = 0; i <= all(); i++) {
            boolean more = i < pad.length();
            if (i == all()) {
                return more ? i : -6;
            }
            if (!more || "abcd.".indexOf(pad.charAt(i)) < 0) {
                return i;
            }
        }
        return -6;
    }

    int lay() {
        if (fault() != -6) {
            return -5;
        }
        for (int i = 0; i < all(); i++) {
            int at = "abcd".indexOf(pad.charAt(i));
            family[i] = at < 0 ? -6 : at;
        }
        sewn.clear();
        pad = "";
        return squares().size();
    }

    int family(int place) {
        return place(place) ? family[place] : -1;
    }

    int foes(int a, int b, boolean are) {
        if (a < 0 || a > 3 || b < 0 || b > 3) {
            return -1;
        }
        foes.remove(a + " " + b);
        foes.remove(b + " " + a);
        if (are) {
            foes.add(a + " " + b);
            for (int p = 0; p < all(); p++) {
                for (int q = p + 1; q < all(); q++) {
                    if (family[p] == a && family[q] == b || family[p] == b && family[q] == a) {
                        sewn.remove(seam(p, q));
                    }
                }
            }
        }
        return 1;
    }

    int set(int which, int v) {
        if (which < 0 || which > 2 || v < 0 || v > (which < 2 ? 99 : 4)) {
            return -2;
        }
        int was = numbers[which];
        numbers[which] = v;
        return was;
    }

    int sew(int a, int b) {
        if (!place(a) || !place(b)) {
            return -1;
        }
        if (!neighbours(a, b) || family[a] < 0 || family[b] < 0 || sewnTo(a, b)) {
            return -3;
        }
        if (areFoes(family[a], family[b])) {
            return -5;
        }
        sewn.add(seam(a, b));
        return thread(a, b);
    }

    int unpick(int a, int b) {
        if (!place(a) || !place(b)) {
            return -1;
        }
        return sewn.remove(seam(a, b)) ? thread(a, b) : -3;
    }

    int birth(int place, int of) {
        if (!place(place) || of < 0 || of > 3) {
            return -1;
        }
        if (family[place] >= 0) {
            return -3;
        }
        family[place] = of;
        int seams = 0;
        for (int to = 0; to < all(); to++) {
            if (sew(place, to) >= 0) {
                seams++;
            }
        }
        return seams;
    }

    int death(int place) {
        if (!place(place)) {
            return -1;
        }
        if (family[place] < 0) {
            return -3;
        }
        int seams = 0;
        for (int to = 0; to < all(); to++) {
            if (sewn.remove(seam(place, to))) {
                seams++;
            }
        }
        family[place] = -6;
        return seams;
    }

    int pieces(int place) {
        if (place == -1) {
            return allPieces().size();
        }
        if (!place(place)) {
            return -1;
        }
        return family[place] < 0 ? -3 : bits(piece(place));
    }

    int cold() {
        List<Integer> cold = new ArrayList<>();
        for (int square : squares()) {
            int seams = 0;
            for (int to : squares()) {
                seams += sewnTo(square, to) ? 1 : 0;
            }
            if (seams < numbers[2]) {
                cold.add(square);
            }
        }
        return bits(cold);
    }

    int spent() {
        int spent = 0;
        for (int a : squares()) {
            for (int b : squares()) {
                spent += a < b && sewnTo(a, b) ? thread(a, b) : 0;
            }
        }
        return spent;
    }

    int parts() {
        List<Integer> parts = new ArrayList<>();
        for (int square : squares()) {
            PlainQuilt without = copy();
            without.death(square);
            if (without.allPieces().size() > allPieces().size()) {
                parts.add(square);
            }
        }
        return bits(parts);
    }

    int whole(int i) {
        PlainQuilt tree = copy();
        tree.sewn.clear();
        List<Integer> seams = new ArrayList<>();
        for (boolean more = true; more; ) {
            int best = -1;
            for (int a : squares()) {
                for (int b : squares()) {
                    boolean joins = a < b && neighbours(a, b) && !areFoes(family[a], family[b])
                            && !tree.piece(a).contains(b);
                    if (joins && (best < 0 || thread(a, b) < thread(best / 16, best % 16))) {
                        best = 16 * a + b;
                    }
                }
            }
            more = best >= 0;
            if (more) {
                seams.add(best);
                tree.sew(best / 16, best % 16);
            }
        }
        if (tree.allPieces().size() != 1 || i < -1 || i >= seams.size()) {
            return -6;
        }
        return i == -1 ? tree.spent() : seams.get(i);
    }

    int patch(int of, int what) {
        if (of < 0 || of > 3) {
            return -1;
        }
        if (what < 0 || what > 1) {
            return -2;
        }
        int[] best = {-6, -6};
        for (int place = 0; place < all(); place++) {
            PlainQuilt with = copy();
            if (with.birth(place, of) >= 0) {
                int cold = Integer.bitCount(with.cold());
                if (best[0] < 0 || cold < best[1]) {
                    best = new int[] {place, cold};
                }
            }
        }
        return best[what];
    }

    int wash(int d, int what) {
        if (d < 0 || d > 15 || what < 0 || what > 1) {
            return -2;
        }
        List<Integer> squares = squares();
        int[] best = {-6, -6};
        for (int part = 1; part < 1 << all(); part++) {
            boolean among = (part & ~bits(squares)) == 0 && part != bits(squares);
            if (among && (part >> squares.get(0) & 1) == 1) {
                int size = Integer.bitCount(part);
                int unlike = Math.abs(squares.size() - size - size);
                int between = between(part);
                if (unlike <= d && (best[0] < 0 || between < best[0])) {
                    best = new int[] {between, part};
                }
            }
        }
        return best[what];
    }

    private int between(int part) {
        int between = 0;
        for (String seam : sewn) {
            int cut = seam.indexOf('-');
            int a = Integer.parseInt(seam.substring(0, cut));
            int b = Integer.parseInt(seam.substring(cut + 1));
            between += (part >> a & 1) != (part >> b & 1) ? 1 : 0;
        }
        return between;
    }

    /** All placings in their order, by trying every one; ends at so many. */
    private void layAll(int place, int[] at, int[] left, List<int[]> found) {
        if (place == all()) {
            if (Arrays.stream(left).sum() == 0 && lieWell(at)) {
                found.add(at.clone());
            }
            return;
        }
        at[place] = -6;
        layAll(place + 1, at, left, found);
        for (int of = 0; of < 4; of++) {
            if (left[of] > 0) {
                left[of]--;
                at[place] = of;
                layAll(place + 1, at, left, found);
                left[of]++;
            }
        }
        at[place] = -6;
    }

    private boolean lieWell(int[] at) {
        for (int a = 0; a < at.length; a++) {
            int beside = 0;
            for (int b = 0; b < at.length; b++) {
                if (at[a] >= 0 && at[b] >= 0 && neighbours(a, b)) {
                    beside++;
                    if (areFoes(at[a], at[b])) {
                        return false;
                    }
                }
            }
            if (at[a] >= 0 && beside < numbers[2]) {
                return false;
            }
        }
        return true;
    }

    private List<int[]> allPlacings(int... crowd) {
        List<int[]> found = new ArrayList<>();
        layAll(0, new int[all()], crowd.clone(), found);
        return found;
    }

    private int refusal(int... crowd) {
        long sum = 0;
        for (int n : crowd) {
            if (n < 0 || n > 8) {
                return -2;
            }
            sum += n;
        }
        if (sum > 8) {
            return -2;
        }
        return all() > 9 ? -4 : 0;
    }

    int placings(int a, int b, int c, int d) {
        int refusal = refusal(a, b, c, d);
        return refusal != 0 ? refusal : allPlacings(a, b, c, d).size();
    }

    int placed(int a, int b, int c, int d, int place) {
        if (!place(place)) {
            return -1;
        }
        int refusal = refusal(a, b, c, d);
        if (refusal != 0) {
            return refusal;
        }
        List<int[]> found = allPlacings(a, b, c, d);
        return found.isEmpty() ? -6 : found.get(0)[place];
    }

    /** Orders that begin with a set of squares, whatever their order among themselves was. */
    private long ordersFrom(int ahead, Map<Integer, Long> known) {
        if (ahead == bits(squares())) {
            return 1;
        }
        Long before = known.get(ahead);
        if (before != null) {
            return before;
        }
        long orders = 0;
        for (int next : squares()) {
            if ((ahead >> next & 1) == 0 && (ahead == 0 || isSewnToSome(next, ahead))) {
                orders += ordersFrom(ahead | 1 << next, known);
            }
        }
        known.put(ahead, orders);
        return orders;
    }

    private boolean isSewnToSome(int square, int set) {
        for (int other : squares()) {
            if ((set >> other & 1) == 1 && sewnTo(square, other)) {
                return true;
            }
        }
        return false;
    }

    long grown() {
        return squares().isEmpty() ? 0 : ordersFrom(0, new HashMap<>());
    }

    int could(int what) {
        if (what < 0 || what > 1) {
            return -2;
        }
        List<Integer> could = new ArrayList<>();
        for (int square : squares()) {
            int rest = bits(squares()) - (1 << square);
            long orders;
            if (what == 0) {
                orders = ordersFrom(1 << square, new HashMap<>());
            } else {
                PlainQuilt without = copy();
                without.death(square);
                orders = rest == 0 ? 1 : isSewnToSome(square, rest) ? without.grown() : 0;
            }
            if (orders > 0) {
                could.add(square);
            }
        }
        return bits(could);
    }

    int turn() {
        PlainQuilt was = copy();
        quilt(was.columns, was.rows);
        for (int a = 0; a < all(); a++) {
            family[turned(was, a)] = was.family[a];
            for (int b = 0; b < all(); b++) {
                if (was.sewnTo(a, b)) {
                    sewn.add(seam(turned(was, a), turned(was, b)));
                }
            }
        }
        return all();
    }

    private int turned(PlainQuilt was, int place) {
        int row = place / was.columns;
        int column = place % was.columns;
        return column * columns + (was.rows - 1 - row);
    }

    int years(int seed, int n, int what) {
        if (seed < 0 || seed > 9999 || n < 1 || n > 99 || what < 0 || what > 3) {
            return -2;
        }
        PlainQuilt then = copy();
        long x = seed;
        int births = 0;
        int deaths = 0;
        for (int i = 0; i < n; i++) {
            x = (75 * x + 74) % 65537;
            int place = (int) (x % all());
            if (then.death(place) >= 0) {
                deaths++;
            } else {
                then.birth(place, (int) (x / 16 % 4));
                births++;
            }
        }
        return new int[] {births, deaths, then.squares().size(), then.allPieces().size()}[what];
    }

    int image(int n) {
        if (n < 0 || n > 1) {
            return -2;
        }
        images.put(n, copy());
        return 1;
    }

    int restore(int n) {
        if (n < 0 || n > 1) {
            return -2;
        }
        if (!images.containsKey(n)) {
            return -3;
        }
        takeFrom(images.get(n));
        return 1;
    }

    int told(int what) {
        if (what < 0 || what > 7) {
            return -2;
        }
        int[] told = {pad.length(), rows, columns, bits(squares()), numbers[0], numbers[1], numbers[2], sewn.size()};
        return told[what];
    }
}
