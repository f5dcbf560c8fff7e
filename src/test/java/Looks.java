import java.util.ArrayList;
import java.util.List;

/**
 * All that the calls show of a quilt: two objects that stand alike show the same. Looking uses the object up,
 * for seams, foes, the pad's text and images only show when something is done. It takes at most 340 calls, so
 * that an object stays under its 512.
 */
final class Looks {
    private final QuiltHouse house;
    private final List<String> seen = new ArrayList<>();

    private Looks(QuiltHouse house) {
        this.house = house;
    }

    static List<String> of(QuiltHouse house) {
        Looks looks = new Looks(house);
        looks.ask();
        looks.doAll("now");
        looks.see("restore(0)", house.restore(0));
        looks.doAll("image 0");
        looks.see("restore(1)", house.restore(1));
        looks.doAll("image 1");
        return looks.seen;
    }

    /** What is first in one list that is not in the other at the same place, or an empty text. */
    static String difference(List<String> some, List<String> others) {
        for (int i = 0; i < some.size() && i < others.size(); i++) {
            if (!some.get(i).equals(others.get(i))) {
                return some.get(i) + ", not " + others.get(i);
            }
        }
        return some.size() == others.size() ? "" : "one is longer";
    }

    private void see(String what, long answer) {
        seen.add(what + " = " + answer);
    }

    private int places() {
        return house.told(1) * house.told(2);
    }

    private void ask() {
        int places = places();
        see("fault", house.fault());
        for (int place = 0; place < places; place++) {
            see("pieces of " + place, house.pieces(place));
        }
        see("cold", house.cold());
        see("spent", house.spent());
        see("parts", house.parts());
        for (int i = -1; i < 3; i++) {
            see("whole " + i, house.whole(i));
        }
        for (int what = 0; what < 2; what++) {
            see("patch " + what, house.patch(2, what));
            see("wash " + what, house.wash(15, what));
            see("could " + what, house.could(what));
        }
        see("grown", house.grown());
        see("placings", house.placings(1, 1, 0, 1));
    }

    /** Numbers, families, seams, the pad's text as far as it can be laid, and at last who is whose foe. */
    private void doAll(String when) {
        for (int what = 0; what < 8; what++) {
            see(when + ": told " + what, house.told(what));
        }
        int places = places();
        int columns = house.told(2);
        for (int place = 0; place < places; place++) {
            see(when + ": family at " + place, house.family(place));
            see(when + ": right of " + place, house.unpick(place, place + 1));
            see(when + ": below " + place, house.unpick(place, place + columns));
        }
        see(when + ": lay", house.lay());
        see(when + ": squares", house.told(3));
        for (int family = 0; family < 4; family++) {
            for (int other = 0; other <= family; other++) {
                house.quilt(1, 2);
                house.birth(0, family);
                see(when + ": friends " + family + ", " + other, house.birth(1, other));
            }
        }
    }
}
