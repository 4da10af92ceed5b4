import java.util.ArrayList;
import java.util.List;
import java.util.function.Supplier;

/** Lanes made ready for the tests of bounds, and what a refused call must leave as it was. */
final class Scenes {
    static final int NONE = -1, UNKNOWN = -101, OUTSIDE = -102, STATE = -103, FULL = -104;
    static final int MIN = Integer.MIN_VALUE, MAX = Integer.MAX_VALUE;
    static final String KINDS = "hwoyt";
    static final int[] WRONG_RAINS = {MIN, -1, 21, MAX};

    interface Call {
        long on(ThatchLane x);
    }

    private Scenes() { }

    /** Houses told as "kind:reed:worry", reed 0 to 20, none combed, when so many years (6 or 7) have gone by. */
    static ThatchLane inYear(int years, String... houses) {
        ThatchLane x = Checks.laneOf(textOf(years, houses));
        for (int year = 1; year <= years; year++) {
            x.year();
        }
        for (int i = 0; i < houses.length; i++) {
            x.move(i, KINDS.indexOf(houses[i].charAt(0)), numberIn(houses[i], 2));
            if (x.house(i, 1) != numberIn(houses[i], 1)) {
                throw new IllegalStateException("can't make " + houses[i]);
            }
        }
        return x;
    }

    /** The lane that grows to have as much reed as these in so many years; of which kind, with which worry, is left. */
    static String textOf(int years, String... houses) {
        StringBuilder text = new StringBuilder();
        for (String house : houses) {
            text.append(text.length() > 0 ? "," : "").append(seedling(numberIn(house, 1), years)).append('0');
        }
        return text.toString();
    }

    /** The kind and reed that without worry comes to so much in so many years. */
    private static String seedling(int reed, int years) {
        if (reed <= 9) {
            return "w" + reed;
        }
        return reed - years <= 9 ? "h" + (reed - years) : "y" + (reed - 2 * years);
    }

    static int numberIn(String house, int part) {
        return Integer.parseInt(house.split(":")[part]);
    }

    static ThatchLane none() {
        return new ThatchLane();
    }

    static ThatchLane noneWithPage() {
        ThatchLane x = new ThatchLane();
        Checks.type(x, "h0,");
        return x;
    }

    static ThatchLane noneWithFullPage() {
        ThatchLane x = new ThatchLane();
        Checks.type(x, "h12,w34,o56,y78,t90,h12,w3");
        return x;
    }

    /** One house, and nothing else: neither an image nor anything seen. */
    static ThatchLane plain() {
        return Checks.laneOf("w93");
    }

    /** Six houses of all kinds, of which one is combed; an image that is unlike what is now; seen, and a page. */
    static ThatchLane busy() {
        ThatchLane x = Checks.laneOf("h93,w52,o47,y31,t85,h24");
        x.year();
        x.rain(6);
        x.see(0, 1, 9);
        x.comb(1);
        x.image();
        x.year();
        x.rain(9);
        x.see(3, 2, 9);
        x.comb(3);
        x.cheer(2);
        Checks.type(x, "w1");
        return x;
    }

    /** The same with all that can be full: what is seen, and the page. */
    static ThatchLane brimful() {
        ThatchLane x = busy();
        x.blank();
        x.forget();
        for (int sight = 1; sight <= 6; sight++) {
            x.see(0, 1, 8);
        }
        Checks.type(x, "h12,w34,o56,y78,t90,h12,w3");
        return x;
    }

    /** All that an object tells of itself; what is the same for two objects in this is held to be the same state. */
    static List<Long> portrait(ThatchLane x) {
        List<Long> told = new ArrayList<>();
        for (int house = 0; house <= 5; house++) {
            for (int what = 0; what <= 6; what++) {
                told.add((long) x.house(house, what));
            }
        }
        for (int what = 0; what <= 9; what++) {
            told.add((long) x.count(what));
        }
        told.add((long) x.fault());
        told.add(x.digest());
        return told;
    }

    /** The call is refused, and what it was called on stays like another one made the same way. */
    static void refused(Checks c, String call, Supplier<ThatchLane> scene, Call how, int want) {
        ThatchLane x = scene.get();
        ThatchLane y = scene.get();
        c.due(call, how.on(x), want);
        c.holds(call + " changes nothing", portrait(x).equals(portrait(y)));
        // An image, and what can be read from the page, show in what comes next alone.
        c.due(call + " leaves an image", x.restore(), y.restore());
        c.holds(call + " leaves what an image keeps", portrait(x).equals(portrait(y)));
        c.due(call + " leaves the page", x.lane(), y.lane());
        c.due(call + " leaves letters", x.blank(), y.blank());
    }
}
