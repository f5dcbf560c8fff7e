/** All promises: long runs of calls, drawn by fixed seeds, on the program and on the plain model. */
public final class PlainQuiltTest {
    private static final int RUNS = 240;
    private static final int CALLS = 512;
    private static final int KINDS = 28;

    private final QuiltHouse house = new QuiltHouse();
    private final PlainQuilt plain = new PlainQuilt();
    private final Checks checks;
    private final int run;
    private long state;

    private PlainQuiltTest(Checks checks, int run) {
        this.checks = checks;
        this.run = run;
        this.state = 1000003L * (run + 1);
    }

    public static void main(String[] args) {
        Checks checks = new Checks();
        for (int run = 0; run < RUNS; run++) {
            PlainQuiltTest test = new PlainQuiltTest(checks, run);
            for (int call = 0; call < CALLS; call++) {
                test.step(call);
            }
        }
        checks.end();
    }

    private int draw(int below) {
        state = state * 6364136223846793005L + 1442695040888963407L;
        return (int) ((state >>> 33) % below);
    }

    /** Mostly from 0 on below a bound, now and then one beside it or far off. */
    private int number(int below) {
        int kind = draw(25);
        if (kind == 0) {
            return below + draw(2);
        }
        if (kind == 1) {
            return -1 - draw(7);
        }
        if (kind == 2 && draw(4) == 0) {
            return draw(2) == 0 ? Integer.MIN_VALUE : Integer.MAX_VALUE;
        }
        return draw(below);
    }

    private int place() {
        return number(Math.max(1, house.told(1) * house.told(2)));
    }

    private int beside(int place) {
        int[] steps = {1, -1, house.told(2), -house.told(2)};
        return draw(8) == 0 ? place() : place + steps[draw(4)];
    }

    private void due(String call, long got, long want) {
        checks.due("run " + run + ": " + call, got, want);
    }

    private void step(int call) {
        int kind = draw(KINDS + 40);
        if (call == 0 || draw(60) == 0) {
            newQuilt();
        } else if (kind < 12) {
            change(kind);
        } else if (kind < KINDS) {
            ask(kind);
        } else if (kind < KINDS + 14) {
            sewOne();
        } else if (kind < KINDS + 24) {
            int at = place();
            int family = number(4);
            due("birth", house.birth(at, family), plain.birth(at, family));
        } else if (kind < KINDS + 27) {
            int at = place();
            due("death", house.death(at), plain.death(at));
        } else {
            ask(12 + draw(KINDS - 12));
        }
        for (int what = 0; what < 8; what++) {
            due("told", house.told(what), plain.told(what));
        }
    }

    private void sewOne() {
        int at = place();
        int other = beside(at);
        due("sew", house.sew(at, other), plain.sew(at, other));
    }

    private void newQuilt() {
        int rows = run % 3 == 0 ? 1 + draw(4) : 2 + draw(2);
        int columns = run % 3 == 1 ? 1 + draw(4) : 2 + draw(2);
        due("quilt", house.quilt(rows, columns), plain.quilt(rows, columns));
        due("wipe", house.wipe(), plain.wipe());
        if (draw(4) != 0) {
            int holes = draw(4);
            for (int i = 0; i < rows * columns; i++) {
                int sign = draw(8) < holes ? '.' : 'a' + draw(4);
                due("say", house.say(sign), plain.say(sign));
            }
            due("fault", house.fault(), plain.fault());
            due("lay", house.lay(), plain.lay());
            for (int i = 0; i < 2 * rows * columns; i++) {
                sewOne();
            }
        }
    }

    private void change(int kind) {
        int a = number(4);
        int b = number(4);
        boolean yes = draw(3) == 0;
        switch (kind) {
            case 0 -> due("foes", house.foes(a, b, yes), plain.foes(a, b, yes));
            case 1 -> {
                int v = number(a == 2 ? 5 : draw(2) == 0 ? 4 : 100);
                due("set", house.set(a, v), plain.set(a, v));
            }
            case 2 -> {
                int n = number(2);
                due("image", house.image(n), plain.image(n));
            }
            case 3 -> {
                int n = number(2);
                due("restore", house.restore(n), plain.restore(n));
            }
            case 4, 5 -> due("turn", house.turn(), plain.turn());
            case 6 -> {
                int sign = draw(3) == 0 ? number(130) : "abcd.".charAt(draw(5));
                due("say", house.say(sign), plain.say(sign));
            }
            case 7 -> due("lay", house.lay(), plain.lay());
            case 8 -> due("fault", house.fault(), plain.fault());
            case 9 -> due("foes gone", house.foes(a, b, false), plain.foes(a, b, false));
            default -> {
                int at = place();
                int other = beside(at);
                due("unpick", house.unpick(at, other), plain.unpick(at, other));
            }
        }
    }

    private void ask(int kind) {
        int what = number(2);
        int at = place();
        switch (kind) {
            case 12 -> due("family", house.family(at), plain.family(at));
            case 13 -> due("pieces", house.pieces(at), plain.pieces(at));
            case 14 -> due("pieces", house.pieces(-1), plain.pieces(-1));
            case 15 -> due("cold", house.cold(), plain.cold());
            case 16 -> due("spent", house.spent(), plain.spent());
            case 17 -> due("parts", house.parts(), plain.parts());
            case 18 -> due("whole", house.whole(-1), plain.whole(-1));
            case 19 -> due("whole", house.whole(at), plain.whole(at));
            case 20, 21 -> {
                int family = number(4);
                due("patch", house.patch(family, what), plain.patch(family, what));
            }
            case 22 -> {
                int d = number(draw(2) == 0 ? 16 : 4);
                due("wash", house.wash(d, what), plain.wash(d, what));
            }
            case 23 -> askPlacings(at);
            case 24 -> due("grown", house.grown(), plain.grown());
            case 25 -> due("could", house.could(what), plain.could(what));
            default -> {
                int seed = number(10000);
                int n = 1 + number(99);
                int of = number(4);
                due("years", house.years(seed, n, of), plain.years(seed, n, of));
            }
        }
    }

    private void askPlacings(int at) {
        int most = draw(40) == 0 ? 9 : 3;
        int a = number(most);
        int b = number(most);
        int c = number(most);
        int d = number(draw(3) + 1);
        due("placings", house.placings(a, b, c, d), plain.placings(a, b, c, d));
        due("placed", house.placed(a, b, c, d, at), plain.placed(a, b, c, d, at));
    }
}
