/** Counts checks, tells those that fail, and ends the program with exit code 1 if there was one. */
final class Checks {
    private int checks = 0;
    private int wrong = 0;
    private String promise = "";

    void promise(int number, String name) {
        promise = "promise " + number + " (" + name + ")";
    }

    void due(String what, long got, long want) {
        checks++;
        if (got != want) {
            wrong++;
            System.out.println(promise + ": " + what + " answered " + got + ", due is " + want);
        }
    }

    void fine(String what, boolean fine) {
        due(what, fine ? 1 : 0, 1);
    }

    void end() {
        System.out.println(checks + " checks, " + wrong + " wrong");
        if (wrong != 0 || checks == 0) {
            System.exit(1);
        }
    }

    /** A quilt of so many rows and columns, laid by a text. */
    static QuiltHouse laid(int rows, int columns, String text) {
        QuiltHouse house = new QuiltHouse();
        house.quilt(rows, columns);
        say(house, text);
        house.lay();
        return house;
    }

    /** The same, with all seams sewn that can be. */
    static QuiltHouse sewn(int rows, int columns, String text) {
        QuiltHouse house = laid(rows, columns, text);
        for (int place = 0; place < rows * columns; place++) {
            house.sew(place, place + columns);
            if ((place + 1) % columns != 0) {
                house.sew(place, place + 1);
            }
        }
        return house;
    }

    static void say(QuiltHouse house, String text) {
        for (int i = 0; i < text.length(); i++) {
            house.say(text.charAt(i));
        }
    }

    static int bits(int... places) {
        int bits = 0;
        for (int place : places) {
            bits |= 1 << place;
        }
        return bits;
    }
}
