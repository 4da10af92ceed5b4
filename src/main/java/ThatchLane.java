/**
 * A lane of thatched houses that worry, grow bald, are combed and get wet.
 *
 * The words in capitals are those of the document; each public method is one of its promises.
 */
public final class ThatchLane {
    public static final int NONE = -1, UNKNOWN = -101, OUTSIDE = -102, STATE = -103, FULL = -104;

    private static final int HOUSE = 0, WIG = 1, OLD = 2, YOUNG = 3, TOUPEE = 4;
    private static final String KIND_LETTERS = "hwoyt";

    private static final int MOST_HOUSES = 6;
    private static final int MOST_REED = 20;
    private static final int MOST_WORRY = 9;
    private static final int MOST_RAIN = 20;
    private static final int MOST_SEEN = 6;
    private static final int MOST_PLANNED = 4;
    private static final int MOST_FORESEEN = 9;
    private static final int MOST_BUNDLES = 30;
    private static final int SHELTER = 10;
    private static final int LAST_YEAR = 999;
    private static final int MOST_WETS = 9000;
    private static final int DRY_YEARS = 40;

    private final Page page;
    private final Lane now;
    private final Sights seen;
    private final Lane keptLane;
    private final Sights keptSeen;
    private final Lane trial;
    private final Seer seer;
    private final Planner planner;
    private final Pairer pairer;
    private final Patcher patcher;
    private final Draws draws;
    private boolean imageKept;
    private int lanesRead;

    public ThatchLane() {
        page = new Page();
        now = new Lane();
        seen = new Sights();
        keptLane = new Lane();
        keptSeen = new Sights();
        trial = new Lane();
        seer = new Seer();
        planner = new Planner();
        pairer = new Pairer();
        patcher = new Patcher();
        draws = new Draws();
        imageKept = false;
        lanesRead = 0;
    }

    // ---- the lane

    public int letter(int code) {
        if (!within(code, 32, 126)) {
            return OUTSIDE;
        }
        if (page.size >= Page.MOST_LETTERS) {
            return FULL;
        }
        page.add(code);
        return page.size;
    }

    public int blank() {
        int had = page.size;
        page.size = 0;
        return had;
    }

    public int fault() {
        return page.firstFault();
    }

    public int lane() {
        if (!page.isLane()) {
            return STATE;
        }
        now.begin(page.housesTold());
        for (int house = 0; house < now.size; house++) {
            now.settle(house, page.kindTold(house), page.reedTold(house), page.worryTold(house));
        }
        page.size = 0;
        seen.size = 0;
        imageKept = false;
        lanesRead++;
        return now.size;
    }

    // ---- houses

    public int house(int house, int what) {
        if (!now.has(house)) {
            return UNKNOWN;
        }
        switch (what) {
            case 0: return now.kinds.at(house);
            case 1: return now.reeds.at(house);
            case 2: return now.worries.at(house);
            case 3: return now.combed.at(house);
            case 4: return now.reedBehindYear(house);
            case 5: return seer.worriesLeft(now, seen, house);
            case 6: return seer.whenToLook(now, seen, house);
            default: return OUTSIDE;
        }
    }

    public int as(int house, int kind) {
        if (!now.has(house)) {
            return UNKNOWN;
        }
        if (!within(kind, HOUSE, TOUPEE)) {
            return OUTSIDE;
        }
        return isOfKind(now.kinds.at(house), kind) ? house : NONE;
    }

    public int reaches(int house, int rain) {
        if (!now.has(house)) {
            return UNKNOWN;
        }
        if (!within(rain, 0, MOST_RAIN)) {
            return OUTSIDE;
        }
        return now.reachOf(house, rain);
    }

    public int wet(int rain) {
        if (!within(rain, 0, MOST_RAIN)) {
            return OUTSIDE;
        }
        if (now.size == 0) {
            return STATE;
        }
        return now.wetBits(rain);
    }

    // ---- what is done

    public int year() {
        if (now.size == 0) {
            return STATE;
        }
        if (now.year >= LAST_YEAR) {
            return FULL;
        }
        now.passYear();
        return now.year;
    }

    public int rain(int rain) {
        if (!within(rain, 0, MOST_RAIN)) {
            return OUTSIDE;
        }
        if (now.size == 0) {
            return STATE;
        }
        if (now.wets >= MOST_WETS) {
            return FULL;
        }
        return now.rainOn(rain);
    }

    public int cheer(int house) {
        if (!now.has(house)) {
            return UNKNOWN;
        }
        now.cheerUp(house);
        return now.worries.at(house);
    }

    public int comb(int house) {
        if (!now.has(house)) {
            return UNKNOWN;
        }
        if (!now.canBeCombed(house)) {
            return STATE;
        }
        now.combOut(house);
        return now.reeds.at(house);
    }

    public int move(int house, int kind, int worry) {
        if (!now.has(house)) {
            return UNKNOWN;
        }
        if (!within(kind, HOUSE, TOUPEE) || !within(worry, 0, MOST_WORRY)) {
            return OUTSIDE;
        }
        int was = now.kinds.at(house);
        now.kinds.put(house, kind);
        now.worries.put(house, worry);
        return was;
    }

    // ---- what would be

    public int dry(int house, int rain) {
        if (!now.has(house)) {
            return UNKNOWN;
        }
        if (!within(rain, 0, MOST_RAIN)) {
            return OUTSIDE;
        }
        trial.take(now);
        for (int years = 0; years <= DRY_YEARS; years++) {
            if (trial.isWet(house, rain)) {
                return years;
            }
            trial.passYear();
        }
        return NONE;
    }

    public int plan(int years, int rain, int what) {
        boolean told = within(what, 0, 1) || within(what, 10, 9 + MOST_PLANNED);
        if (!within(years, 1, MOST_PLANNED) || !within(rain, 0, MOST_RAIN) || !told) {
            return OUTSIDE;
        }
        if (now.size == 0) {
            return STATE;
        }
        planner.search(now, years, rain);
        if (what == 0) {
            return planner.fewestWet;
        }
        if (what == 1) {
            return planner.mostReed;
        }
        return what - 10 < years ? planner.best.at(what - 10) : NONE;
    }

    public int twos(int what) {
        if (what != 0 && !within(what, 10, 9 + MOST_HOUSES)) {
            return OUTSIDE;
        }
        if (now.size == 0) {
            return STATE;
        }
        pairer.search(now);
        return what == 0 ? pairer.least : pairer.best.at(what - 10);
    }

    public int patch(int rain, int bundles, int what) {
        if (!within(rain, 0, MOST_RAIN) || !within(bundles, 0, MOST_BUNDLES) || !within(what, 0, 1)) {
            return OUTSIDE;
        }
        if (now.size == 0) {
            return STATE;
        }
        patcher.search(now, rain, bundles);
        return what == 0 ? patcher.fewestWet : patcher.fewestBundles;
    }

    public int odds(int house, int years, int what) {
        if (!now.has(house)) {
            return UNKNOWN;
        }
        if (!within(years, 1, 7) || !within(what, 0, 1)) {
            return OUTSIDE;
        }
        trial.take(now);
        int above = 1;
        int below = 1;
        for (int behind = 1; behind <= years; behind++) {
            trial.passYear();
            above *= trial.rainsBorne(house);
            below *= 10;
        }
        return what == 0 ? inLowestTerms(above, below, years) : inLowestTerms(below, above, years);
    }

    // ---- what is seen

    public int see(int house, int year, int reed) {
        if (!now.has(house)) {
            return UNKNOWN;
        }
        if (!within(year, 1, MOST_FORESEEN) || !within(reed, 0, MOST_REED)) {
            return OUTSIDE;
        }
        if (seen.size >= MOST_SEEN) {
            return FULL;
        }
        seen.add(house, year, reed);
        return seen.size;
    }

    public int forget() {
        int had = seen.size;
        seen.size = 0;
        return had;
    }

    public int ages(int times, int seed, int what) {
        if (!within(times, 1, 60) || seed < 0 || !within(what, 0, 2)) {
            return OUTSIDE;
        }
        if (now.size == 0) {
            return STATE;
        }
        trial.take(now);
        draws.seed = seed;
        int wets = 0;
        for (int time = 0; time < times; time++) {
            wets += oneAge();
        }
        switch (what) {
            case 0: return wets;
            case 1: return trial.reedOfAll();
            default: return (int) draws.seed;
        }
    }

    // ---- what is told of all

    public int image() {
        if (now.size == 0) {
            return STATE;
        }
        keptLane.take(now);
        keptSeen.take(seen);
        imageKept = true;
        return now.year;
    }

    public int restore() {
        if (!imageKept) {
            return STATE;
        }
        now.take(keptLane);
        seen.take(keptSeen);
        return now.year;
    }

    public int count(int what) {
        switch (what) {
            case 0: return now.size;
            case 1: return now.reedOfAll();
            case 2: return now.worryOfAll();
            case 3: return now.howManyCombed();
            case 4: return now.howManyShelter();
            case 5: return now.year;
            case 6: return now.wets;
            case 7: return seen.size;
            case 8: return page.size;
            case 9: return lanesRead;
            default: return OUTSIDE;
        }
    }

    public long digest() {
        long h = 1259;
        for (int house = 0; house < now.size; house++) {
            h = mixHouse(h, house);
        }
        if (now.size > 0) {
            h = mix(h, wet(9));
            h = mix(h, plan(2, 9, 0));
            h = mix(h, plan(2, 9, 1));
            h = mix(h, plan(2, 9, 10));
            h = mix(h, plan(2, 9, 11));
            h = mix(h, twos(0));
            for (int what = 10; what <= 15; what++) {
                h = mix(h, twos(what));
            }
            h = mix(h, patch(12, 9, 0));
            h = mix(h, patch(12, 9, 1));
        }
        for (int place = 0; place < page.size; place++) {
            h = mix(h, page.codes.at(place));
        }
        for (int what = 0; what <= 9; what++) {
            h = mix(h, count(what));
        }
        return h;
    }

    private long mixHouse(long before, int house) {
        long h = before;
        for (int what = 0; what <= 6; what++) {
            h = mix(h, house(house, what));
        }
        h = mix(h, reaches(house, 12));
        h = mix(h, dry(house, 8));
        h = mix(h, odds(house, 4, 0));
        return mix(h, odds(house, 4, 1));
    }

    private static long mix(long h, long number) {
        return 31 * h + number;
    }

    /** One time of AGES in the trial lane: how many are WET in it. */
    private int oneAge() {
        int house = draws.next(trial.size);
        if (draws.next(2) == 0) {
            trial.cheerUp(house);
        } else if (trial.canBeCombed(house)) {
            trial.combOut(house);
        }
        trial.passYear();
        return trial.rainOn(draws.next(16));
    }

    /** The first of two numbers without what both share; below is 10 to the years, so that is 2s and 5s alone. */
    private static int inLowestTerms(int first, int second, int years) {
        int one = first;
        int other = second;
        for (int time = 0; time < years; time++) {
            if (one % 2 == 0 && other % 2 == 0) {
                one /= 2;
                other /= 2;
            }
            if (one % 5 == 0 && other % 5 == 0) {
                one /= 5;
                other /= 5;
            }
        }
        return one;
    }

    private static boolean within(int number, int least, int most) {
        return number >= least && number <= most;
    }

    private static boolean isOfKind(int own, int kind) {
        return kind == HOUSE || kind == own || kind == WIG && own == TOUPEE;
    }

    /** REED that a HOUSE of such a KIND comes to in the YEAR of this number. */
    private static int grown(int kind, int reed, int worry, int combed, int year) {
        int living = 1 - worry / 3;
        int more;
        switch (kind) {
            case WIG: more = 0; break;
            case TOUPEE: more = year % 2 == 0 ? 0 : -1; break;
            case OLD: more = living - 2; break;
            case YOUNG: more = living + 1; break;
            default: more = living; break;
        }
        int comes = reed + more + 3 * combed;
        if (comes < 0) {
            return 0;
        }
        return comes > MOST_REED ? MOST_REED : comes;
    }

    /** What is left of RAIN behind so many HOUSES with 10 REED or more. */
    private static int rainBehind(int rain, int shelters) {
        int left = rain - 2 * shelters;
        return left < 0 ? 0 : left;
    }

    /** A row of numbers that looks at each place before it is used: there is 0 outside, and nothing stays there. */
    private static final class Row {
        private final int[] cells;

        Row(int length) {
            cells = new int[length < 0 ? 0 : length];
        }

        int at(int place) {
            return place >= 0 && place < cells.length ? cells[place] : 0;
        }

        void put(int place, int number) {
            if (place >= 0 && place < cells.length) {
                cells[place] = number;
            }
        }

        void fill(int number) {
            for (int place = 0; place < cells.length; place++) {
                cells[place] = number;
            }
        }

        void take(Row other) {
            for (int place = 0; place < cells.length && place < other.cells.length; place++) {
                cells[place] = other.cells[place];
            }
        }

        int sumOfFirst(int many) {
            int sum = 0;
            for (int place = 0; place < many && place < cells.length; place++) {
                sum += cells[place];
            }
            return sum;
        }
    }

    /** THE PAGE: letters by their codes, and how they read as a LANE. */
    private static final class Page {
        private static final int MOST_LETTERS = 26;
        // A HOUSE and the ',' behind it take four letters; behind the last HOUSE there is none.
        private static final int STEP = 4;
        private static final int LONGEST_LANE = STEP * MOST_HOUSES - 1;

        private final Row codes;
        private int size;

        Page() {
            codes = new Row(MOST_LETTERS);
            size = 0;
        }

        void add(int code) {
            codes.put(size, code);
            size++;
        }

        int firstFault() {
            for (int place = 0; place < size; place++) {
                if (!mayStand(place, codes.at(place))) {
                    return place;
                }
            }
            return size;
        }

        boolean isLane() {
            return size % STEP == STEP - 1 && firstFault() == size;
        }

        int housesTold() {
            return (size + 1) / STEP;
        }

        int kindTold(int house) {
            return kindOf(codes.at(STEP * house));
        }

        int reedTold(int house) {
            return codes.at(STEP * house + 1) - '0';
        }

        int worryTold(int house) {
            return codes.at(STEP * house + 2) - '0';
        }

        private static boolean mayStand(int place, int code) {
            if (place >= LONGEST_LANE) {
                return false;
            }
            switch (place % STEP) {
                case 0: return kindOf(code) != NONE;
                case STEP - 1: return code == ',';
                default: return code >= '0' && code <= '9';
            }
        }

        private static int kindOf(int code) {
            for (int kind = 0; kind < KIND_LETTERS.length(); kind++) {
                if (KIND_LETTERS.charAt(kind) == code) {
                    return kind;
                }
            }
            return NONE;
        }
    }

    /** THE LANE as it stands in some YEAR, with what is counted of it; it has no HOUSES where there is none. */
    private static final class Lane {
        private final Row kinds;
        private final Row reeds;
        private final Row worries;
        private final Row combed;
        private int size;
        private int year;
        private int wets;

        Lane() {
            kinds = new Row(MOST_HOUSES);
            reeds = new Row(MOST_HOUSES);
            worries = new Row(MOST_HOUSES);
            combed = new Row(MOST_HOUSES);
            size = 0;
            year = 0;
            wets = 0;
        }

        void begin(int houses) {
            size = Math.max(0, Math.min(houses, MOST_HOUSES));
            year = 0;
            wets = 0;
        }

        void settle(int house, int kind, int reed, int worry) {
            kinds.put(house, kind);
            reeds.put(house, reed);
            worries.put(house, worry);
            combed.put(house, 0);
        }

        void take(Lane other) {
            kinds.take(other.kinds);
            reeds.take(other.reeds);
            worries.take(other.worries);
            combed.take(other.combed);
            size = other.size;
            year = other.year;
            wets = other.wets;
        }

        boolean has(int house) {
            return house >= 0 && house < size;
        }

        void passYear() {
            year++;
            for (int house = 0; house < size; house++) {
                reeds.put(house, grown(kinds.at(house), reeds.at(house), worries.at(house), combed.at(house), year));
                combed.put(house, 0);
            }
        }

        int reedBehindYear(int house) {
            return grown(kinds.at(house), reeds.at(house), worries.at(house), combed.at(house), year + 1);
        }

        int reachOf(int house, int rain) {
            int shelters = 0;
            for (int west = 0; west < house; west++) {
                if (reeds.at(west) >= SHELTER) {
                    shelters++;
                }
            }
            return rainBehind(rain, shelters);
        }

        boolean isWet(int house, int rain) {
            return reeds.at(house) < reachOf(house, rain);
        }

        int wetBits(int rain) {
            int bits = 0;
            int shelters = 0;
            for (int house = 0; house < size; house++) {
                int reed = reeds.at(house);
                if (reed < rainBehind(rain, shelters)) {
                    bits |= 1 << house;
                }
                if (reed >= SHELTER) {
                    shelters++;
                }
            }
            return bits;
        }

        /** There is RAIN: how many are WET by it. */
        int rainOn(int rain) {
            int bits = wetBits(rain);
            int many = 0;
            for (int house = 0; house < size; house++) {
                if ((bits >> house & 1) == 1) {
                    many++;
                    worries.put(house, Math.min(worries.at(house) + 1, MOST_WORRY));
                }
            }
            wets += many;
            return many;
        }

        /** How many of the RAINS of 0 to 9 leave it dry. */
        int rainsBorne(int house) {
            int many = 0;
            for (int rain = 0; rain <= 9; rain++) {
                if (!isWet(house, rain)) {
                    many++;
                }
            }
            return many;
        }

        void cheerUp(int house) {
            worries.put(house, Math.max(worries.at(house) - 2, 0));
        }

        boolean canBeCombed(int house) {
            return combed.at(house) == 0 && reeds.at(house) >= 2;
        }

        void combOut(int house) {
            reeds.put(house, reeds.at(house) - 2);
            combed.put(house, 1);
        }

        int reedOfAll() {
            return reeds.sumOfFirst(size);
        }

        int worryOfAll() {
            return worries.sumOfFirst(size);
        }

        int howManyCombed() {
            return combed.sumOfFirst(size);
        }

        int howManyShelter() {
            int many = 0;
            for (int house = 0; house < size; house++) {
                if (reeds.at(house) >= SHELTER) {
                    many++;
                }
            }
            return many;
        }
    }

    /** What is SEEN: of which HOUSE, behind how many YEARS, how much REED. */
    private static final class Sights {
        private final Row houses;
        private final Row years;
        private final Row reeds;
        private int size;

        Sights() {
            houses = new Row(MOST_SEEN);
            years = new Row(MOST_SEEN);
            reeds = new Row(MOST_SEEN);
            size = 0;
        }

        void add(int house, int year, int reed) {
            houses.put(size, house);
            years.put(size, year);
            reeds.put(size, reed);
            size++;
        }

        void take(Sights other) {
            houses.take(other.houses);
            years.take(other.years);
            reeds.take(other.reeds);
            size = other.size;
        }
    }

    /** Tells WORRIES and LOOK by the REED that each WORRY would bring about. */
    private static final class Seer {
        private static final int WORRIES = MOST_WORRY + 1;

        // REED behind so many YEARS with such a WORRY stands at WORRIES * years + worry.
        private final Row foreseen;
        private final Row alike;

        Seer() {
            foreseen = new Row(WORRIES * (MOST_FORESEEN + 1));
            alike = new Row(MOST_REED + 1);
        }

        int worriesLeft(Lane lane, Sights seen, int house) {
            foresee(lane, house);
            int bits = 0;
            for (int worry = 0; worry < WORRIES; worry++) {
                if (fits(seen, house, worry)) {
                    bits |= 1 << worry;
                }
            }
            return bits;
        }

        int whenToLook(Lane lane, Sights seen, int house) {
            int bits = worriesLeft(lane, seen, house);
            int least = WORRIES + 1;
            int when = NONE;
            for (int years = 1; years <= MOST_FORESEEN && bits != 0; years++) {
                int worst = mostLeft(bits, years);
                if (worst < least) {
                    least = worst;
                    when = years;
                }
            }
            return when;
        }

        private void foresee(Lane lane, int house) {
            int kind = lane.kinds.at(house);
            for (int worry = 0; worry < WORRIES; worry++) {
                int reed = lane.reeds.at(house);
                int combed = lane.combed.at(house);
                for (int years = 1; years <= MOST_FORESEEN; years++) {
                    reed = grown(kind, reed, worry, combed, lane.year + years);
                    combed = 0;
                    foreseen.put(WORRIES * years + worry, reed);
                }
            }
        }

        private boolean fits(Sights seen, int house, int worry) {
            for (int sight = 0; sight < seen.size; sight++) {
                int reed = foreseen.at(WORRIES * seen.years.at(sight) + worry);
                if (seen.houses.at(sight) == house && seen.reeds.at(sight) != reed) {
                    return false;
                }
            }
            return true;
        }

        /** How many of these WORRIES are left at worst, if it is looked behind so many YEARS. */
        private int mostLeft(int bits, int years) {
            alike.fill(0);
            int most = 0;
            for (int worry = 0; worry < WORRIES; worry++) {
                if ((bits >> worry & 1) == 1) {
                    int reed = foreseen.at(WORRIES * years + worry);
                    alike.put(reed, alike.at(reed) + 1);
                    most = Math.max(most, alike.at(reed));
                }
            }
            return most;
        }
    }

    /** PLAN: goes through all ways to CHEER, the first by numbers first, so that a later like one never wins. */
    private static final class Planner {
        private final Lane[] steps;
        private final Row chosen;
        private final Row best;
        private int years;
        private int rain;
        private int fewestWet;
        private int mostReed;

        Planner() {
            steps = new Lane[MOST_PLANNED + 1];
            for (int step = 0; step < steps.length; step++) {
                steps[step] = new Lane();
            }
            chosen = new Row(MOST_PLANNED);
            best = new Row(MOST_PLANNED);
        }

        void search(Lane lane, int overYears, int byRain) {
            years = overYears;
            rain = byRain;
            fewestWet = MOST_HOUSES + 1;
            mostReed = 0;
            Lane first = stepAt(0);
            if (first != null) {
                first.take(lane);
                goOn(first, 0);
            }
        }

        private void goOn(Lane here, int depth) {
            if (depth >= years) {
                weigh(here);
                return;
            }
            for (int house = 0; house < here.size; house++) {
                cheerAndGoOn(here, depth, house);
            }
        }

        private void cheerAndGoOn(Lane here, int depth, int house) {
            Lane next = stepAt(depth + 1);
            if (next == null) {
                return;
            }
            next.take(here);
            next.cheerUp(house);
            next.passYear();
            chosen.put(depth, house);
            goOn(next, depth + 1);
        }

        private void weigh(Lane end) {
            int wet = Integer.bitCount(end.wetBits(rain));
            int reed = end.reedOfAll();
            if (wet < fewestWet || wet == fewestWet && reed > mostReed) {
                fewestWet = wet;
                mostReed = reed;
                best.take(chosen);
            }
        }

        private Lane stepAt(int depth) {
            return depth >= 0 && depth < steps.length ? steps[depth] : null;
        }
    }

    /** TWOS: goes through all ways to pair, the first by numbers first, so that a later like one never wins. */
    private static final class Pairer {
        private static final int FREE = -2;

        private final Row with;
        private final Row best;
        private int least;

        Pairer() {
            with = new Row(MOST_HOUSES);
            best = new Row(MOST_HOUSES);
        }

        void search(Lane lane) {
            least = MOST_HOUSES * MOST_REED + 1;
            with.fill(NONE);
            for (int house = 0; house < lane.size; house++) {
                with.put(house, FREE);
            }
            pairFrom(lane, 0, 0, lane.size % 2 == 1);
        }

        private void pairFrom(Lane lane, int from, int together, boolean mayLeaveOne) {
            int house = firstFree(lane, from);
            if (house >= lane.size) {
                weigh(together);
                return;
            }
            if (mayLeaveOne) {
                leave(lane, house, together);
            }
            for (int other = house + 1; other < lane.size; other++) {
                if (with.at(other) == FREE) {
                    couple(lane, house, other, together, mayLeaveOne);
                }
            }
        }

        private void leave(Lane lane, int house, int together) {
            with.put(house, NONE);
            pairFrom(lane, house + 1, together, false);
            with.put(house, FREE);
        }

        private void couple(Lane lane, int house, int other, int together, boolean mayLeaveOne) {
            int apart = Math.abs(lane.reeds.at(house) - lane.reeds.at(other));
            with.put(house, other);
            with.put(other, house);
            pairFrom(lane, house + 1, together + apart, mayLeaveOne);
            with.put(house, FREE);
            with.put(other, FREE);
        }

        private int firstFree(Lane lane, int from) {
            for (int house = from; house < lane.size; house++) {
                if (with.at(house) == FREE) {
                    return house;
                }
            }
            return lane.size;
        }

        private void weigh(int together) {
            if (together < least) {
                least = together;
                best.take(with);
            }
        }
    }

    /** PATCH: goes from west to east through what is worth putting on each HOUSE. */
    private static final class Patcher {
        private int rain;
        private int bundles;
        private int fewestWet;
        private int fewestBundles;

        Patcher() {
            fewestWet = 0;
            fewestBundles = 0;
        }

        void search(Lane lane, int byRain, int ofBundles) {
            rain = byRain;
            bundles = ofBundles;
            fewestWet = MOST_HOUSES + 1;
            fewestBundles = 0;
            putOnFrom(lane, 0, 0, 0, 0);
        }

        /** REED counts by two marks alone, what REACHES the HOUSE and 10, so no other height is worth trying. */
        private void putOnFrom(Lane lane, int house, int shelters, int used, int wet) {
            if (house >= lane.size) {
                weigh(wet, used);
                return;
            }
            int reed = lane.reeds.at(house);
            int reach = rainBehind(rain, shelters);
            raise(lane, house, shelters, used, wet, reed);
            if (reach > reed) {
                raise(lane, house, shelters, used, wet, reach);
            }
            if (SHELTER > reed) {
                raise(lane, house, shelters, used, wet, SHELTER);
            }
        }

        private void raise(Lane lane, int house, int shelters, int used, int wet, int upTo) {
            int usedThen = used + upTo - lane.reeds.at(house);
            if (usedThen > bundles) {
                return;
            }
            int wetThen = upTo < rainBehind(rain, shelters) ? wet + 1 : wet;
            int sheltersThen = upTo >= SHELTER ? shelters + 1 : shelters;
            putOnFrom(lane, house + 1, sheltersThen, usedThen, wetThen);
        }

        private void weigh(int wet, int used) {
            if (wet < fewestWet || wet == fewestWet && used < fewestBundles) {
                fewestWet = wet;
                fewestBundles = used;
            }
        }
    }

    /** DRAWS by a SEED. */
    private static final class Draws {
        private long seed;

        Draws() {
            seed = 0;
        }

        int next(int of) {
            seed = (1103515245L * seed + 12345L) % 2147483648L;
            return of < 1 ? 0 : (int) (seed / 65536L % of);
        }
    }
}
