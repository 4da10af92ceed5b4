import java.math.BigInteger;
import java.util.ArrayList;
import java.util.HashMap;
import java.util.List;
import java.util.Map;

/**
 * The document once more, written apart from the class and as plainly as it goes: whatever the document
 * says of "all ways" is tried in all ways, and of like ones the first by numbers is found by comparing.
 */
final class Model {
    private static final int NONE = -1, UNKNOWN = -101, OUTSIDE = -102, STATE = -103, FULL = -104;
    private static final Map<Integer, List<int[]>> PAIRINGS = new HashMap<>();

    private record House(char kind, int reed, int worry, boolean combed) {
        House with(int newReed) {
            return new House(kind, newReed, worry, combed);
        }

        House worrying(int newWorry) {
            return new House(kind, reed, Math.min(9, Math.max(0, newWorry)), combed);
        }

        House combedOut() {
            return new House(kind, reed - 2, worry, true);
        }

        boolean isA(char other) {
            return other == 'h' || other == kind || other == 'w' && kind == 't';
        }

        House later(int newYear) {
            int then = reed;
            if (!isA('w')) {
                then = then + 1 - worry / 3;
            }
            if (isA('o')) {
                then = then - 2;
            }
            if (isA('y')) {
                then = then + 1;
            }
            if (isA('t') && newYear % 2 != 0) {
                then = then - 1;
            }
            if (combed) {
                then = then + 3;
            }
            return new House(kind, Math.min(20, Math.max(0, then)), worry, false);
        }
    }

    private record Sight(int house, int year, int reed) { }

    private record Image(List<House> houses, int year, int wets, List<Sight> seen) { }

    private String page = "";
    private List<House> houses = List.of();
    private List<Sight> seen = List.of();
    private int year = 0;
    private int wets = 0;
    private int lanes = 0;
    private Image kept = null;

    private static List<House> later(List<House> from, int newYear) {
        List<House> then = new ArrayList<>();
        for (House house : from) {
            then.add(house.later(newYear));
        }
        return then;
    }

    private static List<House> changed(List<House> from, int at, House by) {
        List<House> then = new ArrayList<>(from);
        then.set(at, by);
        return then;
    }

    private static int reach(List<House> of, int house, int rain) {
        long shelters = of.subList(0, house).stream().filter(h -> h.reed() >= 10).count();
        return (int) Math.max(0, rain - 2 * shelters);
    }

    private static boolean isWet(List<House> of, int house, int rain) {
        return of.get(house).reed() < reach(of, house, rain);
    }

    private static int wetOf(List<House> of, int rain) {
        int many = 0;
        for (int house = 0; house < of.size(); house++) {
            many += isWet(of, house, rain) ? 1 : 0;
        }
        return many;
    }

    private static List<House> rainedOn(List<House> of, int rain) {
        List<House> then = new ArrayList<>();
        for (int house = 0; house < of.size(); house++) {
            House was = of.get(house);
            then.add(isWet(of, house, rain) ? was.worrying(was.worry() + 1) : was);
        }
        return then;
    }

    private static int reedOf(List<House> of) {
        return of.stream().mapToInt(House::reed).sum();
    }

    private boolean known(int house) {
        return house >= 0 && house < houses.size();
    }

    private static boolean out(int number, int least, int most) {
        return number < least || number > most;
    }

    int letter(int code) {
        if (out(code, 32, 126)) {
            return OUTSIDE;
        }
        if (page.length() == 26) {
            return FULL;
        }
        page += (char) code;
        return page.length();
    }

    int blank() {
        int had = page.length();
        page = "";
        return had;
    }

    private static final String HOUSE = "[hwoyt][0-9][0-9]";
    private static final String LANE = HOUSE + "(," + HOUSE + "){0,5}";

    private static boolean begins(String text) {
        // What a lane begins with is what can be filled up to a whole one.
        String whole = "h00,h00,h00,h00,h00,h00";
        return text.length() <= whole.length() && (text + whole.substring(text.length())).matches(LANE);
    }

    int fault() {
        int place = 0;
        while (place < page.length() && begins(page.substring(0, place + 1))) {
            place++;
        }
        return place;
    }

    int lane() {
        if (!page.matches(LANE)) {
            return STATE;
        }
        houses = new ArrayList<>();
        for (String part : page.split(",")) {
            houses.add(new House(part.charAt(0), part.charAt(1) - '0', part.charAt(2) - '0', false));
        }
        page = "";
        seen = List.of();
        year = 0;
        wets = 0;
        kept = null;
        lanes++;
        return houses.size();
    }

    private List<Integer> worriesOf(int house) {
        List<Integer> left = new ArrayList<>();
        for (int worry = 0; worry <= 9; worry++) {
            boolean fits = true;
            for (Sight sight : seen) {
                fits &= sight.house() != house || reedBehind(house, worry, sight.year()) == sight.reed();
            }
            if (fits) {
                left.add(worry);
            }
        }
        return left;
    }

    int reedBehind(int house, int worry, int years) {
        House was = houses.get(house).worrying(worry);
        for (int k = 1; k <= years; k++) {
            was = was.later(year + k);
        }
        return was.reed();
    }

    private int lookOf(int house) {
        List<Integer> left = worriesOf(house);
        int when = NONE;
        int least = 99;
        for (int years = 9; years >= 1 && !left.isEmpty(); years--) {
            int worst = 0;
            for (int reed = 0; reed <= 20; reed++) {
                int like = 0;
                for (int worry : left) {
                    like += reedBehind(house, worry, years) == reed ? 1 : 0;
                }
                worst = Math.max(worst, like);
            }
            if (worst <= least) {
                least = worst;
                when = years;
            }
        }
        return when;
    }

    int house(int house, int what) {
        if (!known(house)) {
            return UNKNOWN;
        }
        House h = houses.get(house);
        return switch (what) {
            case 0 -> "hwoyt".indexOf(h.kind());
            case 1 -> h.reed();
            case 2 -> h.worry();
            case 3 -> h.combed() ? 1 : 0;
            case 4 -> h.later(year + 1).reed();
            case 5 -> worriesOf(house).stream().mapToInt(worry -> (int) Math.pow(2, worry)).sum();
            case 6 -> lookOf(house);
            default -> OUTSIDE;
        };
    }

    int as(int house, int kind) {
        if (!known(house)) {
            return UNKNOWN;
        }
        if (out(kind, 0, 4)) {
            return OUTSIDE;
        }
        return houses.get(house).isA("hwoyt".charAt(kind)) ? house : NONE;
    }

    int reaches(int house, int rain) {
        if (!known(house)) {
            return UNKNOWN;
        }
        return out(rain, 0, 20) ? OUTSIDE : reach(houses, house, rain);
    }

    int wet(int rain) {
        if (out(rain, 0, 20)) {
            return OUTSIDE;
        }
        if (houses.isEmpty()) {
            return STATE;
        }
        int bits = 0;
        for (int house = 0; house < houses.size(); house++) {
            bits += isWet(houses, house, rain) ? (int) Math.pow(2, house) : 0;
        }
        return bits;
    }

    int year() {
        if (houses.isEmpty()) {
            return STATE;
        }
        if (year == 999) {
            return FULL;
        }
        year++;
        houses = later(houses, year);
        return year;
    }

    int rain(int rain) {
        if (out(rain, 0, 20)) {
            return OUTSIDE;
        }
        if (houses.isEmpty()) {
            return STATE;
        }
        if (wets >= 9000) {
            return FULL;
        }
        int many = wetOf(houses, rain);
        houses = rainedOn(houses, rain);
        wets += many;
        return many;
    }

    int cheer(int house) {
        if (!known(house)) {
            return UNKNOWN;
        }
        House was = houses.get(house);
        houses = changed(houses, house, was.worrying(was.worry() - 2));
        return houses.get(house).worry();
    }

    int comb(int house) {
        if (!known(house)) {
            return UNKNOWN;
        }
        House was = houses.get(house);
        if (was.combed() || was.reed() < 2) {
            return STATE;
        }
        houses = changed(houses, house, was.combedOut());
        return was.reed() - 2;
    }

    int move(int house, int kind, int worry) {
        if (!known(house)) {
            return UNKNOWN;
        }
        if (out(kind, 0, 4) || out(worry, 0, 9)) {
            return OUTSIDE;
        }
        House was = houses.get(house);
        houses = changed(houses, house, new House("hwoyt".charAt(kind), was.reed(), worry, was.combed()));
        return "hwoyt".indexOf(was.kind());
    }

    int dry(int house, int rain) {
        if (!known(house)) {
            return UNKNOWN;
        }
        if (out(rain, 0, 20)) {
            return OUTSIDE;
        }
        List<House> then = houses;
        int years = 0;
        while (!isWet(then, house, rain)) {
            if (years == 40) {
                return NONE;
            }
            years++;
            then = later(then, year + years);
        }
        return years;
    }

    int plan(int years, int rain, int what) {
        if (out(years, 1, 4) || out(rain, 0, 20) || out(what, 0, 1) && out(what, 10, 13)) {
            return OUTSIDE;
        }
        if (houses.isEmpty()) {
            return STATE;
        }
        int[] best = null;
        int[] chosen = new int[years];
        int ways = (int) Math.pow(houses.size(), years);
        for (int way = 0; way < ways; way++) {
            int rest = way;
            List<House> then = houses;
            // The last digit is the first year here: which like one is first is found by comparing.
            for (int k = 0; k < years; k++) {
                chosen[k] = rest % houses.size();
                rest /= houses.size();
                House was = then.get(chosen[k]);
                then = later(changed(then, chosen[k], was.worrying(was.worry() - 2)), year + k + 1);
            }
            int[] told = new int[2 + years];
            told[0] = wetOf(then, rain);
            told[1] = -reedOf(then);
            System.arraycopy(chosen, 0, told, 2, years);
            if (best == null || java.util.Arrays.compare(told, best) < 0) {
                best = told;
            }
        }
        if (what < 2) {
            return what == 0 ? best[0] : -best[1];
        }
        return what - 10 < years ? best[2 + what - 10] : NONE;
    }

    /** All rows of partners that hold together, each number tried at each place, in the order of numbers. */
    private static List<int[]> pairings(int many) {
        List<int[]> all = new ArrayList<>();
        int ways = (int) Math.pow(many + 1, many);
        for (int way = 0; way < ways; way++) {
            int[] with = new int[many];
            int rest = way;
            for (int i = many - 1; i >= 0; i--) {
                with[i] = rest % (many + 1) - 1;
                rest /= many + 1;
            }
            int left = 0;
            boolean holds = true;
            for (int i = 0; i < many; i++) {
                left += with[i] == NONE ? 1 : 0;
                holds &= with[i] == NONE || with[i] != i && with[with[i]] == i;
            }
            if (holds && left == many % 2) {
                all.add(with);
            }
        }
        return all;
    }

    int twos(int what) {
        if (what != 0 && out(what, 10, 15)) {
            return OUTSIDE;
        }
        if (houses.isEmpty()) {
            return STATE;
        }
        int[] best = null;
        int least = Integer.MAX_VALUE;
        for (int[] with : PAIRINGS.computeIfAbsent(houses.size(), Model::pairings)) {
            int twice = 0;
            for (int i = 0; i < with.length; i++) {
                twice += with[i] == NONE ? 0 : Math.abs(houses.get(i).reed() - houses.get(with[i]).reed());
            }
            if (twice < least) {
                least = twice;
                best = with;
            }
        }
        if (what == 0) {
            return least / 2;
        }
        return what - 10 < best.length ? best[what - 10] : NONE;
    }

    /** Row of how few can be WET of the houses from this one on, by how many BUNDLES are put on them, just so many. */
    private int[] fewest(int house, int shelters, int rain, int bundles) {
        int[] few = new int[bundles + 1];
        java.util.Arrays.fill(few, 99);
        if (house == houses.size()) {
            few[0] = 0;
            return few;
        }
        for (int on = 0; on <= bundles; on++) {
            int reed = Math.min(20, houses.get(house).reed() + on);
            int wet = reed < Math.max(0, rain - 2 * shelters) ? 1 : 0;
            int[] rest = fewest(house + 1, shelters, reed, rain, bundles);
            for (int more = 0; on + more <= bundles; more++) {
                few[on + more] = Math.min(few[on + more], wet + rest[more]);
            }
        }
        return few;
    }

    private final Map<Integer, int[]> fewestKnown = new HashMap<>();

    private int[] fewest(int house, int shelters, int reedWest, int rain, int bundles) {
        int then = shelters + (reedWest >= 10 ? 1 : 0);
        int[] known = fewestKnown.get(house * 10 + then);
        if (known == null) {
            known = fewest(house, then, rain, bundles);
            fewestKnown.put(house * 10 + then, known);
        }
        return known;
    }

    int patch(int rain, int bundles, int what) {
        if (out(rain, 0, 20) || out(bundles, 0, 30) || out(what, 0, 1)) {
            return OUTSIDE;
        }
        if (houses.isEmpty()) {
            return STATE;
        }
        fewestKnown.clear();
        int[] few = fewest(0, 0, rain, bundles);
        int best = 0;
        for (int used = 1; used <= bundles; used++) {
            best = few[used] < few[best] ? used : best;
        }
        return what == 0 ? few[best] : best;
    }

    int odds(int house, int years, int what) {
        if (!known(house)) {
            return UNKNOWN;
        }
        if (out(years, 1, 7) || out(what, 0, 1)) {
            return OUTSIDE;
        }
        BigInteger above = BigInteger.ONE;
        BigInteger below = BigInteger.ONE;
        List<House> then = houses;
        for (int k = 1; k <= years; k++) {
            then = later(then, year + k);
            int stays = 0;
            for (int rain = 0; rain <= 9; rain++) {
                stays += isWet(then, house, rain) ? 0 : 1;
            }
            above = above.multiply(BigInteger.valueOf(stays));
            below = below.multiply(BigInteger.TEN);
        }
        BigInteger shared = above.gcd(below);
        return (what == 0 ? above : below).divide(shared).intValueExact();
    }

    int see(int house, int inYears, int reed) {
        if (!known(house)) {
            return UNKNOWN;
        }
        if (out(inYears, 1, 9) || out(reed, 0, 20)) {
            return OUTSIDE;
        }
        if (seen.size() == 6) {
            return FULL;
        }
        List<Sight> then = new ArrayList<>(seen);
        then.add(new Sight(house, inYears, reed));
        seen = then;
        return seen.size();
    }

    int forget() {
        int had = seen.size();
        seen = List.of();
        return had;
    }

    int ages(int times, int seed, int what) {
        if (out(times, 1, 60) || seed < 0 || out(what, 0, 2)) {
            return OUTSIDE;
        }
        if (houses.isEmpty()) {
            return STATE;
        }
        BigInteger next = BigInteger.valueOf(seed);
        int[] draws = new int[3 * times];
        for (int i = 0; i < draws.length; i++) {
            next = next.multiply(BigInteger.valueOf(1103515245)).add(BigInteger.valueOf(12345));
            next = next.mod(BigInteger.TWO.pow(31));
            draws[i] = next.divide(BigInteger.valueOf(65536)).intValueExact();
        }
        List<House> then = houses;
        int wet = 0;
        for (int time = 0; time < times; time++) {
            int at = draws[3 * time] % then.size();
            House was = then.get(at);
            if (draws[3 * time + 1] % 2 == 0) {
                then = changed(then, at, was.worrying(was.worry() - 2));
            } else if (was.reed() >= 2 && !was.combed()) {
                then = changed(then, at, was.combedOut());
            }
            then = later(then, year + time + 1);
            wet += wetOf(then, draws[3 * time + 2] % 16);
            then = rainedOn(then, draws[3 * time + 2] % 16);
        }
        return what == 0 ? wet : what == 1 ? reedOf(then) : next.intValueExact();
    }

    int image() {
        if (houses.isEmpty()) {
            return STATE;
        }
        kept = new Image(houses, year, wets, seen);
        return year;
    }

    int restore() {
        if (kept == null) {
            return STATE;
        }
        houses = kept.houses();
        year = kept.year();
        wets = kept.wets();
        seen = kept.seen();
        return year;
    }

    int count(int what) {
        return switch (what) {
            case 0 -> houses.size();
            case 1 -> reedOf(houses);
            case 2 -> houses.stream().mapToInt(House::worry).sum();
            case 3 -> (int) houses.stream().filter(House::combed).count();
            case 4 -> (int) houses.stream().filter(h -> h.reed() >= 10).count();
            case 5 -> year;
            case 6 -> wets;
            case 7 -> seen.size();
            case 8 -> page.length();
            case 9 -> lanes;
            default -> OUTSIDE;
        };
    }

    long digest() {
        List<Long> told = new ArrayList<>();
        for (int h = 0; h < houses.size(); h++) {
            for (int what = 0; what <= 6; what++) {
                told.add((long) house(h, what));
            }
            told.add((long) reaches(h, 12));
            told.add((long) dry(h, 8));
            told.add((long) odds(h, 4, 0));
            told.add((long) odds(h, 4, 1));
        }
        if (!houses.isEmpty()) {
            told.add((long) wet(9));
            for (int what : new int[] {0, 1, 10, 11}) {
                told.add((long) plan(2, 9, what));
            }
            for (int what : new int[] {0, 10, 11, 12, 13, 14, 15}) {
                told.add((long) twos(what));
            }
            told.add((long) patch(12, 9, 0));
            told.add((long) patch(12, 9, 1));
        }
        for (char sign : page.toCharArray()) {
            told.add((long) sign);
        }
        for (int what = 0; what <= 9; what++) {
            told.add((long) count(what));
        }
        long h = 1259;
        for (long number : told) {
            h = 31 * h + number;
        }
        return h;
    }
}
