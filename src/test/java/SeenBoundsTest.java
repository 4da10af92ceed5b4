/** What is seen, promises 20 to 22, with WORRIES and LOOK: each sentence that names a bound, at it and beyond it. */
public final class SeenBoundsTest {
    private static final int NONE = Scenes.NONE, UNKNOWN = Scenes.UNKNOWN, OUTSIDE = Scenes.OUTSIDE;
    private static final int STATE = Scenes.STATE, FULL = Scenes.FULL, MIN = Scenes.MIN, MAX = Scenes.MAX;

    private static final Checks c = new Checks("SeenBoundsTest");

    public static void main(String[] args) {
        seeNumbers();
        seeSixAtMost();
        seeRoomAgain();
        worriesByOneYear();
        worriesByNineYears();
        worriesWhereReedEnds();
        worriesOfAllThatIsSeen();
        worriesOfTheWorryItHas();
        worriesAsWhenAsked();
        lookOfNone();
        lookTheLeast();
        lookNotTheFirst();
        forgetNumbers();
        agesNumbers();
        agesTimes();
        agesSeeds();
        agesWrapAround();
        agesCombedOrNot();
        agesWetOrNot();
        agesWorry();
        agesChangeNothing();
        c.end();
    }

    // "UNKNOWN: house; OUTSIDE: year (1 to 9), reed (0 to 20)"
    private static void seeNumbers() {
        for (int many = 1; many <= 6; many++) {
            ThatchLane x = Checks.laneOf("h50,h50,h50,h50,h50,h50".substring(0, 4 * many - 1));
            for (int house : new int[] {MIN, -1, many, 6, MAX}) {
                for (int year : new int[] {MIN, 0, 1, 9, 10, MAX}) {
                    for (int reed : new int[] {MIN, -1, 0, 20, 21, MAX}) {
                        c.due("20 see(" + house + ", " + year + ", " + reed + ")", x.see(house, year, reed), UNKNOWN);
                    }
                }
            }
            for (int year : new int[] {MIN, -1, 0, 10, MAX}) {
                c.due("20 see(0, " + year + ", 0)", x.see(0, year, 0), OUTSIDE);
                c.due("20 see(last, " + year + ", 20)", x.see(many - 1, year, 20), OUTSIDE);
            }
            for (int reed : new int[] {MIN, -1, 21, MAX}) {
                c.due("20 see(0, 1, " + reed + ")", x.see(0, 1, reed), OUTSIDE);
                c.due("20 see(last, 9, " + reed + ")", x.see(many - 1, 9, reed), OUTSIDE);
            }
            c.due("20 nothing is seen by that", x.count(7), 0);
            c.due("20 see(last, 1, 0)", x.see(many - 1, 1, 0), 1);
            c.due("20 see(last, 1, 20)", x.see(many - 1, 1, 20), 2);
            c.due("20 see(last, 9, 0)", x.see(many - 1, 9, 0), 3);
            c.due("20 see(last, 9, 20)", x.see(many - 1, 9, 20), 4);
        }
    }

    // "SEEN (6 at most)"; "FULL."
    private static void seeSixAtMost() {
        ThatchLane x = Checks.laneOf("h50,w50");
        for (int sight = 1; sight <= 6; sight++) {
            c.due("20 sight no. " + sight, x.see(sight % 2, sight, 5), sight);
        }
        c.due("20 sight no. 7", x.see(0, 1, 5), FULL);
        c.due("20 sight no. 7 of another", x.see(1, 9, 20), FULL);
        c.due("20 6 are seen", x.count(7), 6);
        c.due("20 OUTSIDE ahead of FULL: year 0", x.see(0, 0, 5), OUTSIDE);
        c.due("20 OUTSIDE ahead of FULL: year 10", x.see(0, 10, 5), OUTSIDE);
        c.due("20 OUTSIDE ahead of FULL: reed -1", x.see(0, 1, -1), OUTSIDE);
        c.due("20 OUTSIDE ahead of FULL: reed 21", x.see(0, 1, 21), OUTSIDE);
        c.due("20 UNKNOWN ahead of FULL", x.see(2, 1, 5), UNKNOWN);
        c.due("20 UNKNOWN ahead of FULL", x.see(-1, 1, 5), UNKNOWN);
        c.due("20 UNKNOWN ahead of both", x.see(2, 10, 21), UNKNOWN);
        c.due("20 a wig of 5 has 5 yet: the seventh, of 20, is not seen", x.house(1, 5), 1023);
    }

    private static void seeRoomAgain() {
        ThatchLane x = Scenes.brimful();
        c.due("20 full", x.see(0, 1, 8), FULL);
        x.forget();
        for (int sight = 1; sight <= 6; sight++) {
            c.due("20 behind forget(), no. " + sight, x.see(0, 1, 8), sight);
        }
        c.due("20 behind forget(), no. 7", x.see(0, 1, 8), FULL);
        c.due("20 restore()", x.restore(), 1);
        c.due("20 the image had 1", x.see(0, 1, 8), 2);
    }

    private static int worriesOf(String text, int... sights) {
        ThatchLane x = Checks.laneOf(text);
        for (int i = 0; i + 1 < sights.length; i += 2) {
            x.see(0, sights[i], sights[i + 1]);
        }
        return x.house(0, 5);
    }

    // "WORRIES (0 to 9) it can have": the least bit is 0, the last is 9; thirds are rounded down.
    private static void worriesByOneYear() {
        c.due("6 nothing is seen", worriesOf("h50"), 1023);
        c.due("6 more than can be", worriesOf("h50", 1, 7), 0);
        c.due("6 worry 0 to 2", worriesOf("h50", 1, 6), 7);
        c.due("6 worry 3 to 5", worriesOf("h50", 1, 5), 56);
        c.due("6 worry 6 to 8", worriesOf("h50", 1, 4), 448);
        c.due("6 worry 9", worriesOf("h50", 1, 3), 512);
        c.due("6 less than can be", worriesOf("h50", 1, 2), 0);
        c.due("6 an old one, worry 0 to 2", worriesOf("o50", 1, 4), 7);
        c.due("6 an old one, worry 9", worriesOf("o50", 1, 1), 512);
        c.due("6 a young one, worry 0 to 2", worriesOf("y50", 1, 7), 7);
        c.due("6 a young one, worry 9", worriesOf("y50", 1, 4), 512);
        c.due("6 a wig, any", worriesOf("w50", 1, 5), 1023);
        c.due("6 a wig, none", worriesOf("w50", 1, 4), 0);
        c.due("6 a toupee, any", worriesOf("t50", 1, 4), 1023);
        c.due("6 a toupee, none", worriesOf("t50", 1, 5), 0);
    }

    // "behind so many YEARS from now (1 to 9 ..)"
    private static void worriesByNineYears() {
        c.due("6 9 years, 2 a year", worriesOf("y00", 9, 18), 7);
        c.due("6 9 years, 1 a year", worriesOf("y00", 9, 9), 56);
        c.due("6 9 years, none", worriesOf("y00", 9, 0), 960);
        c.due("6 9 years, what 8 would bring", worriesOf("y00", 9, 16), 0);
        c.due("6 9 years, what 10 would bring", worriesOf("y00", 9, 20), 0);
        c.due("6 8 years, 2 a year", worriesOf("y00", 8, 16), 7);
        c.due("6 a toupee: 1, 3, 5, 7, 9 are odd", worriesOf("t90", 9, 4), 1023);
        c.due("6 a toupee: 1, 3, 5, 7 are odd", worriesOf("t90", 8, 5), 1023);
        ThatchLane x = Checks.laneOf("t90");
        x.year();
        x.see(0, 9, 4);
        c.due("6 a toupee of 8: 3, 5, 7, 9 are odd", x.house(0, 5), 1023);
    }

    // "REED is 0 at least, 20 at most"
    private static void worriesWhereReedEnds() {
        c.due("6 bald, and so then", worriesOf("h00", 1, 0), 1016);
        c.due("6 bald, and 1 then", worriesOf("h00", 1, 1), 7);
        ThatchLane x = Scenes.inYear(6, "h:20:0");
        x.see(0, 1, 20);
        c.due("6 full, and so then", x.house(0, 5), 63);
        x.forget();
        x.see(0, 1, 19);
        c.due("6 full, and 19 then", x.house(0, 5), 448);
        x.forget();
        x.see(0, 1, 18);
        c.due("6 full, and 18 then", x.house(0, 5), 512);
        x.forget();
        x.see(0, 9, 20);
        c.due("6 full, and so behind 9", x.house(0, 5), 63);
        x.forget();
        x.see(0, 9, 2);
        c.due("6 full, and 2 behind 9", x.house(0, 5), 512);
    }

    // "so that all that is SEEN of it is so"
    private static void worriesOfAllThatIsSeen() {
        c.due("6 two that agree", worriesOf("h50", 1, 6, 2, 7), 7);
        c.due("6 two that part", worriesOf("h50", 1, 6, 2, 6), 0);
        c.due("6 the second is less sure", worriesOf("h10", 1, 0, 2, 0), 960);
        c.due("6 six of which the last parts", worriesOf("h50", 1, 6, 1, 6, 1, 6, 1, 6, 1, 6, 1, 5), 0);
        c.due("6 six of which the first parts", worriesOf("h50", 1, 5, 1, 6, 1, 6, 1, 6, 1, 6, 1, 6), 0);
        c.due("6 six that agree", worriesOf("h50", 1, 6, 2, 7, 3, 8, 4, 9, 5, 10, 9, 14), 7);
        ThatchLane x = Checks.laneOf("h50,h50,h50,h50,h50,h50");
        x.see(5, 1, 3);
        x.see(0, 1, 6);
        int[] bits = {7, 1023, 1023, 1023, 1023, 512};
        for (int house = 0; house <= 5; house++) {
            c.due("6 of it alone, house " + house, x.house(house, 5), bits[house]);
        }
    }

    // "of which it is not known what its WORRY is": what it has is no matter.
    private static void worriesOfTheWorryItHas() {
        for (int worry = 0; worry <= 9; worry++) {
            c.due("6 worry " + worry + " is not known", worriesOf("h5" + worry, 1, 5), 56);
        }
        ThatchLane x = Checks.laneOf("h59");
        x.see(0, 1, 5);
        x.cheer(0);
        x.rain(20);
        c.due("6 cheer and rain are no matter", x.house(0, 5), 56);
    }

    // "from now (.. whenever it was told, and whatever was done since)"; "all else as it is when that is asked"
    private static void worriesAsWhenAsked() {
        ThatchLane x = Checks.laneOf("h50");
        x.see(0, 1, 6);
        c.due("6 of 5", x.house(0, 5), 7);
        x.year();
        c.due("6 of 6", x.house(0, 5), 56);
        x.comb(0);
        c.due("6 of 4, and 3 more", x.house(0, 5), 448);
        x.move(0, 2, 0);
        c.due("6 of an old one of 4, and 3 more", x.house(0, 5), 7);
        x.move(0, 1, 0);
        c.due("6 of a wig of 4, and 3 more", x.house(0, 5), 0);
        x.move(0, 4, 0);
        c.due("6 of a toupee in an even year", x.house(0, 5), 0);
        x.year();
        c.due("6 of a toupee of 7 in an odd year", x.house(0, 5), 1023);
        x.year();
        c.due("6 of a toupee of 6 in an even year", x.house(0, 5), 1023);
        x.year();
        c.due("6 of a toupee of 6 in an odd year", x.house(0, 5), 0);
        c.due("6 it is seen yet", x.count(7), 1);
    }

    // "none, if there are none"
    private static void lookOfNone() {
        ThatchLane x = Checks.laneOf("h50,w50");
        x.see(0, 1, 7);
        x.see(1, 1, 4);
        c.due("6 none are left of a house", x.house(0, 6), NONE);
        c.due("6 none are left of a wig", x.house(1, 6), NONE);
        x.forget();
        x.see(0, 1, 3);
        x.see(1, 1, 5);
        c.due("6 one is left of a house", x.house(0, 6), 1);
        c.due("6 all are left of a wig", x.house(1, 6), 1);
    }

    // "behind how many YEARS from now (1 to 9) to look .. of like ones the least"
    private static void lookTheLeast() {
        for (char kind : Scenes.KINDS.toCharArray()) {
            for (int reed = 0; reed <= 9; reed++) {
                c.due("6 look at " + kind + reed, Checks.laneOf("" + kind + reed + "0").house(0, 6), 1);
            }
        }
        // Behind each YEAR all that are left are 20.
        ThatchLane x = Scenes.inYear(6, "y:20:0");
        x.see(0, 9, 20);
        c.due("6 nine are left", x.house(0, 5), 511);
        c.due("6 nine that are never told apart", x.house(0, 6), 1);
    }

    // "so that fewest of these are left at worst, by its REED"
    private static void lookNotTheFirst() {
        // 18, and 3 more and 2, 1, 0, -1: 20 with all; behind another 20, 20, 20, 19.
        ThatchLane x = Scenes.inYear(6, "y:20:0");
        x.comb(0);
        c.due("6 the second", x.house(0, 6), 2);
        x.see(0, 1, 20);
        c.due("6 the second, with what is sure", x.house(0, 6), 2);
        x.see(0, 9, 20);
        c.due("6 nine are left that are never told apart", x.house(0, 6), 1);
        // 18, and 3 more and 1, 0, -1, -2: 20, 20, 20, 19: nine; behind another 20, 20, 19, 17: six.
        x = Scenes.inYear(6, "h:20:0");
        x.comb(0);
        c.due("6 20, 20, 20, 19 are not alike: the second", x.house(0, 6), 2);
        // 17, and 3 more: 20, 20, 19, 18: six; behind another 20, 20, 18, 16.
        x = Scenes.inYear(6, "h:19:0");
        x.comb(0);
        c.due("6 it gets no better: the first", x.house(0, 6), 1);
    }

    // "Nothing is SEEN any more: how much was."
    private static void forgetNumbers() {
        for (int many = 0; many <= 6; many++) {
            ThatchLane x = Checks.laneOf("h50");
            for (int sight = 1; sight <= many; sight++) {
                x.see(0, 1, 7);
            }
            c.due("21 worries ahead of it", x.house(0, 5), many > 0 ? 0 : 1023);
            c.due("21 forget() of " + many, x.forget(), many);
            c.due("21 forget() of none", x.forget(), 0);
            c.due("21 none are seen", x.count(7), 0);
            c.due("21 worries behind it", x.house(0, 5), 1023);
            c.due("21 look behind it", x.house(0, 6), 1);
        }
        ThatchLane x = Scenes.brimful();
        ThatchLane y = Scenes.brimful();
        c.due("21 forget()", x.forget(), 6);
        for (int sight = 1; sight <= 6; sight++) {
            x.see(0, 1, 8);
        }
        c.holds("21 nothing else is forgotten", Scenes.portrait(x).equals(Scenes.portrait(y)));
        c.due("21 the image stays", x.restore(), 1);
        c.due("21 with what was seen then", x.count(7), 1);
    }

    // "OUTSIDE: times (1 to 60), seed (0 at least), what; STATE: no LANE."
    private static void agesNumbers() {
        ThatchLane x = Checks.laneOf("h50");
        ThatchLane none = new ThatchLane();
        for (int what = 0; what <= 2; what++) {
            for (int times : new int[] {MIN, -1, 0, 61, MAX}) {
                c.due("22 times " + times, x.ages(times, 0, what), OUTSIDE);
                c.due("22 times " + times + " of none", none.ages(times, 0, what), OUTSIDE);
            }
            for (int seed : new int[] {MIN, MIN + 1, -2, -1}) {
                c.due("22 seed " + seed, x.ages(1, seed, what), OUTSIDE);
                c.due("22 seed " + seed + " of none", none.ages(60, seed, what), OUTSIDE);
            }
            for (int times : new int[] {1, 60}) {
                for (int seed : new int[] {0, 1, MAX - 1, MAX}) {
                    c.holds("22 ages(" + times + ", " + seed + ", " + what + ")", x.ages(times, seed, what) >= 0);
                    c.due("22 no lane", none.ages(times, seed, what), STATE);
                }
            }
        }
        for (int what : new int[] {MIN, -1, 3, 10, MAX}) {
            c.due("22 what " + what, x.ages(1, 0, what), OUTSIDE);
            c.due("22 what " + what + " of none", none.ages(60, MAX, what), OUTSIDE);
        }
    }

    /** The seed behind so many draws. */
    private static int drawn(int seed, int draws) {
        java.math.BigInteger next = java.math.BigInteger.valueOf(seed);
        for (int draw = 1; draw <= draws; draw++) {
            next = next.multiply(java.math.BigInteger.valueOf(1103515245)).add(java.math.BigInteger.valueOf(12345));
            next = next.mod(java.math.BigInteger.valueOf(2147483648L));
        }
        return next.intValueExact();
    }

    /** What this DRAW is, ahead of the rest by how many. */
    private static int draw(int seed, int which) {
        return drawn(seed, which) / 65536;
    }

    // "so many times": three DRAWS in each, in the first and in the sixtieth.
    private static void agesTimes() {
        ThatchLane one = Checks.laneOf("w00");
        ThatchLane six = Checks.laneOf("w00,w00,w00,w00,w00,w00");
        for (int times = 1; times <= 60; times++) {
            c.due("22 the seed of " + times, one.ages(times, 7, 2), drawn(7, 3 * times));
            c.due("22 the seed of " + times + ", six houses", six.ages(times, 7, 2), drawn(7, 3 * times));
        }
        // A young one that never worries grows by 2 each time: 20 at most.
        ThatchLane x = Scenes.inYear(6, "y:20:0");
        c.due("22 20 at most", x.ages(60, 7, 1), 20);
        c.due("22 never wet", x.ages(60, 7, 0), 0);
        // A bald wig can't be combed, and is wet each time that the DRAW of 16 is not 0.
        int wets = 0;
        for (int times = 1; times <= 60; times++) {
            wets += draw(7, 3 * times) % 16 > 0 ? 1 : 0;
            c.due("22 bald, wet in " + times, one.ages(times, 7, 0), wets);
            c.due("22 bald, wet in " + times + ", six of them", six.ages(times, 7, 0), 6 * wets);
        }
        c.due("22 bald at last", one.ages(60, 7, 1), 0);
    }

    // "seed (0 at least)"
    private static void agesSeeds() {
        ThatchLane x = Checks.laneOf("w00");
        // 0: 12345, 1406932606, 654583775.
        c.due("22 seed 0", x.ages(1, 0, 2), 654583775);
        for (int seed : new int[] {0, 1, 2, 65535, 65536, MAX - 1, MAX}) {
            c.due("22 seed " + seed, x.ages(1, seed, 2), drawn(seed, 3));
            c.due("22 seed " + seed + ", 60 times", x.ages(60, seed, 2), drawn(seed, 180));
        }
    }

    // "its rest by 2 to the 31": the greatest SEED times so much is beyond an int, but no less than 0.
    private static void agesWrapAround() {
        ThatchLane x = Checks.laneOf("w00");
        c.due("22 the greatest seed", x.ages(1, MAX, 2), 646343466);
        c.due("22 one SEED leads to 0 in three", x.ages(1, seedLeadingTo(0), 2), 0);
        c.due("22 one SEED leads to the greatest in three", x.ages(1, seedLeadingTo(MAX), 2), MAX);
    }

    /** The SEED three DRAWS ahead of this one: each is told by its rest, as the factor is odd. */
    private static int seedLeadingTo(int last) {
        java.math.BigInteger rest = java.math.BigInteger.valueOf(2147483648L);
        java.math.BigInteger back = java.math.BigInteger.valueOf(1103515245).modInverse(rest);
        java.math.BigInteger seed = java.math.BigInteger.valueOf(last);
        for (int draw = 1; draw <= 3; draw++) {
            seed = seed.subtract(java.math.BigInteger.valueOf(12345)).multiply(back).mod(rest);
        }
        return seed.intValueExact();
    }

    /** The least SEED of which the second and third DRAWS of one time are these, by 2 and by 16. */
    private static int seedOf(int second, int third) {
        for (int seed = 0; seed < 10000; seed++) {
            if (draw(seed, 2) % 2 == second && draw(seed, 3) % 16 == third) {
                return seed;
            }
        }
        throw new IllegalStateException("no such seed");
    }

    // "CHEERED if a DRAW of 2 is 0, else COMBED (if it has 2 REED, and is not COMBED)"
    private static void agesCombedOrNot() {
        int cheer = seedOf(0, 0);
        int comb = seedOf(1, 0);
        for (int reed = 0; reed <= 9; reed++) {
            ThatchLane x = Checks.laneOf("w" + reed + "0");
            c.due("22 a wig of " + reed + ", combed", x.ages(1, comb, 1), reed >= 2 ? reed + 1 : reed);
            c.due("22 a wig of " + reed + ", cheered", x.ages(1, cheer, 1), reed);
        }
        for (int reed = 2; reed <= 9; reed++) {
            ThatchLane x = Checks.laneOf("w" + reed + "0");
            x.comb(0);
            c.due("22 combed already, of " + reed, x.ages(1, comb, 1), reed + 1);
            c.due("22 cheered, and combed already, of " + reed, x.ages(1, cheer, 1), reed + 1);
        }
        int[] cheered = {9, 9, 9, 9, 9, 8, 8, 8, 7, 7};
        int[] combed = {10, 10, 10, 9, 9, 9, 8, 8, 8, 7};
        for (int worry = 0; worry <= 9; worry++) {
            ThatchLane x = Checks.laneOf("h8" + worry);
            c.due("22 of worry " + worry + ", cheered", x.ages(1, cheer, 1), cheered[worry]);
            c.due("22 of worry " + worry + ", combed", x.ages(1, comb, 1), combed[worry]);
        }
    }

    // "then there is RAIN by a DRAW of 16": 0 to 15, on what it has behind the YEAR.
    private static void agesWetOrNot() {
        for (int rain = 0; rain <= 15; rain++) {
            int seed = seedOf(0, rain);
            for (int reed = 0; reed <= 15; reed++) {
                ThatchLane x = Scenes.inYear(6, "w:" + reed + ":0");
                c.due("22 " + rain + " on " + reed, x.ages(1, seed, 0), reed < rain ? 1 : 0);
                x = Scenes.inYear(6, "t:" + (reed + 1) + ":0");
                c.due("22 " + rain + " on a toupee that has " + reed + " then", x.ages(1, seed, 0), reed < rain ? 1 : 0);
            }
        }
    }

    // "Who is WET has 1 more WORRY", in AGES, too: with 2 it is a third then.
    private static void agesWorry() {
        ThatchLane x = Checks.laneOf("h02");
        // Of 0 and of 1 there is too little to comb; RAIN of 9 in the first time, and nobody is cheered in the second.
        int seed = 0;
        while (draw(seed, 2) % 2 != 1 || draw(seed, 3) % 16 != 9 || draw(seed, 5) % 2 != 1) {
            seed++;
        }
        c.due("22 one time: 1", x.ages(1, seed, 1), 1);
        c.due("22 one time: wet", x.ages(1, seed, 0), 1);
        c.due("22 two times: 1 yet, by worry 3", x.ages(2, seed, 1), 1);
        x.year();
        c.due("22 were it not wet it would be 2", x.house(0, 4), 2);
    }

    private static void agesChangeNothing() {
        ThatchLane x = Scenes.busy();
        ThatchLane y = Scenes.busy();
        for (int what = 0; what <= 2; what++) {
            x.ages(60, 7, what);
            x.ages(1, MAX, what);
        }
        c.holds("22 as they would be: nothing is done", Scenes.portrait(x).equals(Scenes.portrait(y)));
        c.due("22 the image stays", x.restore(), y.restore());
        c.holds("22 the image stays as it is", Scenes.portrait(x).equals(Scenes.portrait(y)));
        c.due("22 the seed is not kept", x.ages(1, 7, 2), drawn(7, 3));
    }
}
