/** What would be, promises 15 to 19: each sentence that names a bound, at the bound and one beyond it. */
public final class WouldBeBoundsTest {
    private static final int NONE = Scenes.NONE, UNKNOWN = Scenes.UNKNOWN, OUTSIDE = Scenes.OUTSIDE;
    private static final int STATE = Scenes.STATE, MIN = Scenes.MIN, MAX = Scenes.MAX;

    private static final Checks c = new Checks("WouldBeBoundsTest");

    public static void main(String[] args) {
        dryNumbers();
        dryAtOnce();
        dryFortyYears();
        dryOtherwiseNone();
        planNumbers();
        planYears();
        planOfNoWorry();
        planFewestThenMost();
        planReedBounds();
        planOfLikeOnes();
        twosNumbers();
        twosOfEachMany();
        twosOneIsLeft();
        patchNumbers();
        patchThirtyBundles();
        patchToTheMark();
        patchTwentyAtMost();
        oddsNumbers();
        oddsRains();
        oddsYears();
        oddsNobodyWorries();
        askingChangesNothing();
        c.end();
    }

    // "UNKNOWN: house; OUTSIDE: rain (0 to 20)."
    private static void dryNumbers() {
        for (int many = 1; many <= 6; many++) {
            ThatchLane x = Checks.laneOf("w50,w50,w50,w50,w50,w50".substring(0, 4 * many - 1));
            for (int rain : Scenes.WRONG_RAINS) {
                c.due("15 dry(0, " + rain + ")", x.dry(0, rain), OUTSIDE);
                c.due("15 dry(last, " + rain + ")", x.dry(many - 1, rain), OUTSIDE);
            }
            c.due("15 dry(last, 0)", x.dry(many - 1, 0), NONE);
            c.due("15 dry(last, 20)", x.dry(many - 1, 20), 0);
            for (int house : new int[] {MIN, -1, many, 6, MAX}) {
                for (int rain : new int[] {MIN, -1, 0, 20, 21, MAX}) {
                    c.due("15 dry(" + house + ", " + rain + ") of " + many, x.dry(house, rain), UNKNOWN);
                }
            }
        }
    }

    // "behind how few YEARS (0 to 40)": 0 is now.
    private static void dryAtOnce() {
        ThatchLane x = Checks.laneOf("y50,t50,o50,w50");
        for (int house = 0; house <= 3; house++) {
            c.due("15 less than what reaches it, now", x.dry(house, 6), 0);
        }
        c.due("15 as much as that, and more then", x.dry(0, 5), NONE);
        c.due("15 as much as that, and less in an odd year", x.dry(1, 5), 1);
        c.due("15 as much as that, and less then", x.dry(2, 5), 1);
        c.due("15 as much as that, and so then", x.dry(3, 5), NONE);
        c.due("15 one more", x.dry(2, 4), 2);
        // Bald ones are dry by none, and wet by 1.
        x = Checks.laneOf("o00");
        c.due("15 by none", x.dry(0, 0), NONE);
        c.due("15 by 1", x.dry(0, 1), 0);
        // 2 years: first it is 4, then what is 0 at least.
        x = Checks.laneOf("o89");
        c.due("15 it is bald", x.dry(0, 1), 2);
    }

    // "(0 to 40)": a toupee loses 1 in each odd year.
    private static void dryFortyYears() {
        ThatchLane x = Scenes.inYear(6, "t:20:0");
        c.due("15 20 of 20 are gone behind 39", x.dry(0, 1), 39);
        c.due("15 19 of 20 are gone behind 37", x.dry(0, 2), 37);
        x = Scenes.inYear(7, "t:20:0");
        c.due("15 20 of 20 are gone behind 40", x.dry(0, 1), 40);
        c.due("15 19 of 20 are gone behind 38", x.dry(0, 2), 38);
        // 18, then 18 - 1 + 3; so the first of 20 goes in the third year: all are gone behind 41.
        x = Scenes.inYear(6, "t:20:0");
        x.comb(0);
        c.due("15 behind 41 is none", x.dry(0, 1), NONE);
        c.due("15 19 of 20 are gone behind 39", x.dry(0, 2), 39);
        x = Scenes.inYear(7, "t:20:0");
        x.comb(0);
        c.due("15 3 more than 18, but 20 at most: behind 40", x.dry(0, 1), 40);
    }

    private static void dryOtherwiseNone() {
        // It is its neighbour, a toupee that goes from 20 below 10, that lets the rain through.
        ThatchLane x = Scenes.inYear(6, "t:20:0", "w:5:0");
        c.due("15 in the lee of 20", x.dry(1, 7), 21);
        c.due("15 in the lee of 20 by less", x.dry(1, 5), NONE);
        c.due("15 in the lee of 20 by more", x.dry(1, 8), 0);
        // Others grow into a lee: it is wet now or never.
        x = Checks.laneOf("y80,w50");
        c.due("15 not yet in the lee", x.dry(1, 6), 0);
        x.year();
        c.due("15 in the lee", x.dry(1, 6), NONE);
        x = Checks.laneOf("h99");
        c.due("15 with so much worry", x.dry(0, 9), 1);
        c.due("15 with so much worry by 1", x.dry(0, 1), 5);
        c.due("15 with so much worry by 2", x.dry(0, 2), 4);
    }

    // "OUTSIDE: years (1 to 4), rain (0 to 20), what; STATE: no LANE." "10 to 13"
    private static void planNumbers() {
        ThatchLane x = Checks.laneOf("h33,h53");
        ThatchLane none = new ThatchLane();
        int[] whats = {0, 1, 10, 11, 12, 13};
        int[] wrongWhats = {MIN, MIN + 10, -10, -1, 2, 9, 14, 15, 100, MAX};
        int[] wrongYears = {MIN, -1, 0, 5, MAX};
        for (int what : whats) {
            for (int years : wrongYears) {
                c.due("16 years " + years, x.plan(years, 5, what), OUTSIDE);
                c.due("16 years " + years + " of none", none.plan(years, 5, what), OUTSIDE);
            }
            for (int rain : Scenes.WRONG_RAINS) {
                c.due("16 rain " + rain, x.plan(1, rain, what), OUTSIDE);
                c.due("16 rain " + rain + " of none", none.plan(4, rain, what), OUTSIDE);
            }
            c.due("16 no lane", none.plan(1, 0, what), STATE);
            c.due("16 no lane", none.plan(4, 20, what), STATE);
        }
        for (int what : wrongWhats) {
            for (int years = 1; years <= 4; years++) {
                c.due("16 what " + what, x.plan(years, 0, what), OUTSIDE);
                c.due("16 what " + what + " of none", none.plan(years, 20, what), OUTSIDE);
            }
        }
        c.due("16 rain 0 wets none", x.plan(1, 0, 0), 0);
        c.due("16 rain 20 wets both", x.plan(4, 20, 0), 2);
    }

    // "which HOUSE ahead of the so-manieth YEAR (NONE: there are not so many)"
    private static void planYears() {
        ThatchLane x = Checks.laneOf("w50,h09");
        for (int years = 1; years <= 4; years++) {
            for (int what = 10; what <= 13; what++) {
                boolean asMany = what < 10 + years;
                int whom = x.plan(years, 20, what);
                c.holds("16 " + what + " of " + years + " years", asMany ? whom == 0 || whom == 1 : whom == NONE);
            }
        }
        // Worries of 9, 7, 5, 3, 1 come to -2, -1, 0, 0, 1 a year: of 0 reed some is left behind the fourth alone.
        c.due("16 one year, reed", x.plan(1, 20, 1), 5);
        c.due("16 two years, reed", x.plan(2, 20, 1), 5);
        c.due("16 three years, reed", x.plan(3, 20, 1), 5);
        c.due("16 four years, reed", x.plan(4, 20, 1), 6);
        for (int what = 10; what <= 13; what++) {
            c.due("16 four years, whom " + what, x.plan(4, 20, what), 1);
        }
        c.due("16 three years are alike: the first", x.plan(3, 20, 10), 0);
    }

    // "HOUSE is CHEERED (it may have no WORRY)"; "0 at least"
    private static void planOfNoWorry() {
        ThatchLane x = Checks.laneOf("h00");
        for (int years = 1; years <= 4; years++) {
            c.due("16 alone, reed", x.plan(years, 20, 1), years);
            c.due("16 alone, the last year", x.plan(years, 20, 9 + years), 0);
        }
        // With 1 and 2 to have 2 less is to have none; more is no use.
        int[] reeds = {9, 9, 9, 9, 9, 8, 8, 8, 7, 7};
        for (int worry = 0; worry <= 9; worry++) {
            x = Checks.laneOf("h8" + worry);
            c.due("16 of 8 reed and worry " + worry, x.plan(1, 20, 1), reeds[worry]);
            c.due("16 whom", x.plan(1, 20, 10), 0);
        }
    }

    // "fewest would be WET; of these so that there is most REED in all then, together"
    private static void planFewestThenMost() {
        // Behind two years: 2 and 8, with house 0 cheered at first 4 and 8, with house 1 cheered at first 2 and 10.
        ThatchLane x = Checks.laneOf("h23,h83,w90");
        c.due("16 by 2 none is wet", x.plan(2, 2, 0), 0);
        c.due("16 by 3 one may be dry that would be wet", x.plan(2, 3, 0), 0);
        c.due("16 by 3 whom", x.plan(2, 3, 10), 0);
        c.due("16 by 4 whom", x.plan(2, 4, 10), 0);
        c.due("16 by 4 none is wet", x.plan(2, 4, 0), 0);
        c.due("16 by 5 one is wet", x.plan(2, 5, 0), 1);
        c.due("16 by 5 most reed: the one, then the other", x.plan(2, 5, 1), 22);
        c.due("16 by 5 whom", x.plan(2, 5, 10), 0);
        c.due("16 by 5 whom then", x.plan(2, 5, 11), 1);
        // By 10 house 1 needs both years' growth to be dry: 8, 9, 10; then it shelters the wig.
        c.due("16 by 10 one is wet", x.plan(2, 10, 0), 1);
        c.due("16 by 10 whom", x.plan(2, 10, 10), 1);
        c.due("16 by 10 whom then", x.plan(2, 10, 11), 0);
    }

    // "REED is 0 at least, 20 at most": where it is so cheer is no use.
    private static void planReedBounds() {
        ThatchLane x = Scenes.inYear(6, "y:20:4", "o:0:9", "h:5:3");
        c.due("16 a full one and a bald one: the third", x.plan(1, 20, 10), 2);
        c.due("16 reed", x.plan(1, 20, 1), 26);
        c.due("16 20 by 20 is dry", x.plan(1, 20, 0), 2);
        x = Scenes.inYear(6, "y:18:3", "h:5:3");
        c.due("16 19, or 20, as much as 5, or 6: the first", x.plan(1, 5, 10), 0);
        c.due("16 reed", x.plan(1, 5, 1), 25);
        c.due("16 20 by 20 is dry: the first", x.plan(1, 20, 0), 1);
        x = Scenes.inYear(6, "y:19:3", "h:5:3");
        c.due("16 20 anyway: the second", x.plan(1, 20, 10), 1);
    }

    // "of like ones the first by numbers"
    private static void planOfLikeOnes() {
        for (int many = 1; many <= 6; many++) {
            ThatchLane x = Checks.laneOf("w50,w50,w50,w50,w50,w50".substring(0, 4 * many - 1));
            for (int what = 10; what <= 13; what++) {
                c.due("16 all alike, whom " + what, x.plan(4, 6, what), 0);
            }
            c.due("16 all alike, wet", x.plan(4, 6, 0), many);
            c.due("16 all alike, dry", x.plan(4, 5, 0), 0);
            c.due("16 all alike, reed", x.plan(4, 6, 1), 5 * many);
        }
        // Nothing is told apart where all are wet and have no reed, whatever was planned ahead of that.
        ThatchLane x = Checks.laneOf("o00,o00,o00,o00,o00,o00");
        x.plan(4, 20, 0);
        c.due("16 six bald ones, wet", x.plan(4, 20, 0), 6);
        c.due("16 six bald ones, reed", x.plan(4, 20, 1), 0);
        for (int what = 10; what <= 13; what++) {
            c.due("16 six bald ones, whom " + what, x.plan(4, 20, what), 0);
        }
        x = Checks.laneOf("o10,o10,o10,o10,o10,o23");
        c.due("16 five bald ones, and one that may keep 1", x.plan(1, 20, 10), 5);
        c.due("16 its reed", x.plan(1, 20, 1), 1);
        x.year();
        c.due("16 then it may keep none: the first", x.plan(1, 20, 10), 0);
        c.due("16 six bald ones then", x.plan(1, 20, 0), 6);
        // 3 and 3: the one now and the other later is as good as the other way about.
        x = Checks.laneOf("h33,h33");
        c.due("16 the first now", x.plan(2, 20, 10), 0);
        c.due("16 the other then", x.plan(2, 20, 11), 1);
        // The last of six alone worries.
        x = Checks.laneOf("w50,w50,w50,w50,w50,h53");
        c.due("16 the last", x.plan(1, 20, 10), 5);
        c.due("16 the last, once it is of use", x.plan(2, 20, 11), 0);
    }

    // "what = 0 how much, 10 to 15"; "OUTSIDE; STATE: no LANE."
    private static void twosNumbers() {
        ThatchLane x = Checks.laneOf("w10,w20");
        ThatchLane none = new ThatchLane();
        for (int what : new int[] {MIN, MIN + 10, -10, -1, 1, 2, 9, 16, 17, MAX}) {
            c.due("17 twos(" + what + ")", x.twos(what), OUTSIDE);
            c.due("17 twos(" + what + ") of none", none.twos(what), OUTSIDE);
        }
        for (int what : new int[] {0, 10, 11, 12, 13, 14, 15}) {
            c.due("17 twos(" + what + ") of none", none.twos(what), STATE);
        }
        c.due("17 twos(0)", x.twos(0), 1);
        c.due("17 twos(10)", x.twos(10), 1);
        c.due("17 twos(15)", x.twos(15), NONE);
    }

    // "(NONE: it is left, or there is none such)"; "of like ones the first by numbers (.. NONE ahead of all)"
    private static void twosOfEachMany() {
        int[][] alike = {{-1}, {1, 0}, {-1, 2, 1}, {1, 0, 3, 2}, {-1, 2, 1, 4, 3}, {1, 0, 3, 2, 5, 4}};
        for (int many = 1; many <= 6; many++) {
            ThatchLane x = Checks.laneOf("w50,h51,o52,y53,t54,w55".substring(0, 4 * many - 1));
            c.due("17 all alike, " + many, x.twos(0), 0);
            for (int house = 0; house <= 5; house++) {
                int with = house < many ? alike[many - 1][house] : NONE;
                c.due("17 all alike, " + many + ", house " + house, x.twos(10 + house), with);
            }
        }
    }

    // "if they are odd, one is left": whichever makes it least.
    private static void twosOneIsLeft() {
        String[] texts = {"w90,w10,w11,w20,w21", "w10,w90,w11,w20,w21", "w10,w11,w90,w20,w21", "w10,w11,w20,w90,w21",
            "w10,w11,w20,w21,w90"};
        int[][] due = {{-1, 2, 1, 4, 3}, {2, -1, 0, 4, 3}, {1, 0, -1, 4, 3}, {1, 0, 4, -1, 2}, {1, 0, 3, 2, -1}};
        for (int left = 0; left <= 4; left++) {
            ThatchLane x = Checks.laneOf(texts[left]);
            c.due("17 " + left + " is left", x.twos(0), 0);
            for (int house = 0; house <= 5; house++) {
                c.due("17 " + left + " is left, house " + house, x.twos(10 + house), house < 5 ? due[left][house] : NONE);
            }
        }
        // The widest: 0 and 20, of both sides.
        ThatchLane x = Scenes.inYear(6, "w:0:0", "w:20:0");
        c.due("17 20 apart", x.twos(0), 20);
        x = Scenes.inYear(6, "w:20:0", "w:0:0");
        c.due("17 20 apart, the other way about", x.twos(0), 20);
        x = Scenes.inYear(6, "w:0:0", "w:20:0", "w:9:0");
        c.due("17 9 apart, and one is left", x.twos(0), 9);
        c.due("17 the second is left", x.twos(11), NONE);
    }

    // "OUTSIDE: rain (0 to 20), bundles (0 to 30), what; STATE: no LANE."
    private static void patchNumbers() {
        ThatchLane x = Checks.laneOf("w50,w30");
        ThatchLane none = new ThatchLane();
        for (int what = 0; what <= 1; what++) {
            for (int rain : Scenes.WRONG_RAINS) {
                c.due("18 rain " + rain, x.patch(rain, 0, what), OUTSIDE);
                c.due("18 rain " + rain + " on none", none.patch(rain, 30, what), OUTSIDE);
            }
            for (int bundles : new int[] {MIN, -1, 31, MAX}) {
                c.due("18 bundles " + bundles, x.patch(0, bundles, what), OUTSIDE);
                c.due("18 bundles " + bundles + " on none", none.patch(20, bundles, what), OUTSIDE);
            }
            c.due("18 no lane", none.patch(0, 0, what), STATE);
            c.due("18 no lane", none.patch(20, 30, what), STATE);
        }
        for (int what : new int[] {MIN, -1, 2, 10, MAX}) {
            c.due("18 what " + what, x.patch(0, 0, what), OUTSIDE);
            c.due("18 what " + what + " on none", none.patch(20, 30, what), OUTSIDE);
        }
        patched("0 rain, 0 bundles", x, 0, 0, 0, 0);
        patched("0 rain, 30 bundles", x, 0, 30, 0, 0);
        patched("20 rain, 0 bundles", x, 20, 0, 2, 0);
    }

    private static void patched(String text, ThatchLane x, int rain, int bundles, int wet, int few) {
        c.due("18 " + text + ": wet", x.patch(rain, bundles, 0), wet);
        c.due("18 " + text + ": bundles", x.patch(rain, bundles, 1), few);
    }

    // "so many BUNDLES (0 to 30)"
    private static void patchThirtyBundles() {
        // 16 on the first, which shelters then, and 14 on the second, of 18.
        ThatchLane x = Checks.laneOf("w40,w40");
        patched("just 30 are needed", x, 20, 30, 0, 30);
        patched("29 of 30", x, 20, 29, 1, 16);
        patched("16 for the one", x, 20, 16, 1, 16);
        patched("15 of 16", x, 20, 15, 2, 0);
        x = Checks.laneOf("w40,w30");
        patched("31 would be needed", x, 20, 30, 1, 16);
        x = Checks.laneOf("w30");
        patched("17 of 30", x, 20, 30, 0, 17);
        patched("17 of 17", x, 20, 17, 0, 17);
        patched("16 of 17", x, 20, 16, 1, 0);
    }

    // "if its REED is less than what REACHES it"; "10 REED, or more"
    private static void patchToTheMark() {
        ThatchLane x = Checks.laneOf("w50");
        for (int rain = 0; rain <= 20; rain++) {
            int needed = rain > 5 ? rain - 5 : 0;
            patched("as much as " + rain, x, rain, 30, 0, needed);
            patched("just so much for " + rain, x, rain, needed, 0, needed);
            if (needed > 0) {
                patched("1 less for " + rain, x, rain, needed - 1, 1, 0);
            }
        }
        // 1 on the first, so that it has 10, and the second is dry by 8 in its lee.
        x = Checks.laneOf("w90,w60");
        patched("a lee for 1", x, 8, 1, 0, 1);
        patched("no lee for 0", x, 8, 0, 1, 0);
        patched("a lee for 1 by 9", x, 9, 1, 1, 0);
        patched("a lee for 1, and 1 by 9", x, 9, 2, 0, 2);
        // 8 needs 2 to shelter: as many as to be dry itself.
        x = Checks.laneOf("w80,w60");
        patched("a lee for 2, or 2 by itself", x, 8, 2, 0, 2);
        patched("1 is no use", x, 8, 1, 1, 0);
    }

    // "(20 at most)"
    private static void patchTwentyAtMost() {
        ThatchLane x = Scenes.inYear(6, "w:20:0", "w:20:0");
        patched("full ones", x, 20, 30, 0, 0);
        x = Scenes.inYear(6, "w:19:0", "w:20:0");
        patched("one that wants 1", x, 20, 30, 0, 1);
        patched("one that wants 1, and has none", x, 20, 0, 1, 0);
        x = Checks.laneOf("w00,w00,w00,w00,w00,w00");
        patched("six bald ones by 1", x, 1, 6, 0, 6);
        patched("six bald ones by 1, of 5", x, 1, 5, 1, 5);
        // 10 on the first and on the second, and 1 on the others, of 5 less 4.
        patched("six bald ones by 5", x, 5, 30, 0, 24);
        patched("six bald ones by 5, of 24", x, 5, 24, 0, 24);
        patched("six bald ones by 5, of 23: the last is wet", x, 5, 23, 1, 22);
        patched("six bald ones by 20", x, 20, 30, 5, 20);
    }

    // "UNKNOWN: house; OUTSIDE: years (1 to 7), what."
    private static void oddsNumbers() {
        for (int many = 1; many <= 6; many++) {
            ThatchLane x = Checks.laneOf("w50,w50,w50,w50,w50,w50".substring(0, 4 * many - 1));
            for (int house : new int[] {MIN, -1, many, 6, MAX}) {
                for (int years : new int[] {MIN, 0, 1, 7, 8, MAX}) {
                    for (int what = -1; what <= 2; what++) {
                        c.due("19 odds(" + house + ", " + years + ", " + what + ")", x.odds(house, years, what), UNKNOWN);
                    }
                }
            }
            for (int years : new int[] {MIN, -1, 0, 8, MAX}) {
                c.due("19 odds(0, " + years + ", 0)", x.odds(0, years, 0), OUTSIDE);
                c.due("19 odds(last, " + years + ", 1)", x.odds(many - 1, years, 1), OUTSIDE);
            }
            for (int what : new int[] {MIN, -1, 2, MAX}) {
                c.due("19 odds(0, 1, " + what + ")", x.odds(0, 1, what), OUTSIDE);
                c.due("19 odds(last, 7, " + what + ")", x.odds(many - 1, 7, what), OUTSIDE);
            }
            c.due("19 the last of " + many, x.odds(many - 1, 1, 0), 3);
            c.due("19 the last of " + many, x.odds(many - 1, 1, 1), 5);
        }
    }

    private static void likely(String text, ThatchLane x, int house, int years, int above, int below) {
        c.due("19 " + text + ": above", x.odds(house, years, 0), above);
        c.due("19 " + text + ": below", x.odds(house, years, 1), below);
    }

    // "RAIN of 0 to 9, each as likely"; "in whole parts", "in lowest terms"
    private static void oddsRains() {
        int[] above = {1, 1, 3, 2, 1, 3, 7, 4, 9, 1};
        int[] below = {10, 5, 10, 5, 2, 5, 10, 5, 10, 1};
        for (int reed = 0; reed <= 9; reed++) {
            likely("a wig of " + reed, Checks.laneOf("w" + reed + "0"), 0, 1, above[reed], below[reed]);
        }
        for (int reed = 10; reed <= 20; reed++) {
            likely("a wig of " + reed, Scenes.inYear(6, "w:" + reed + ":0"), 0, 7, 1, 1);
        }
        ThatchLane x = Scenes.inYear(6, "w:10:0", "w:10:0", "w:10:0", "w:10:0", "w:0:0");
        likely("a bald one behind four: wet by 9 alone", x, 4, 1, 9, 10);
        x = Scenes.inYear(6, "w:10:0", "w:10:0", "w:10:0", "w:10:0", "w:10:0", "w:0:0");
        likely("a bald one behind five: never", x, 5, 7, 1, 1);
    }

    // "so many YEARS (1 to 7)": behind each it is to be dry, not now.
    private static void oddsYears() {
        int[] above7 = {1, 1, 2187, 128, 1, 2187, 823543, 16384, 4782969, 1};
        int[] below7 = {10000000, 78125, 10000000, 78125, 128, 78125, 10000000, 78125, 10000000, 1};
        for (int reed = 0; reed <= 9; reed++) {
            likely("a wig of " + reed + ", 7 years", Checks.laneOf("w" + reed + "0"), 0, 7, above7[reed], below7[reed]);
        }
        // 9, and 8 behind the first YEAR, and 7, 6, 5, 4, 3, 2: 9, 8, 7, 6, 5, 4, 3 of 10.
        ThatchLane x = Checks.laneOf("o90");
        int[] above = {9, 18, 63, 189, 189, 189, 567};
        int[] below = {10, 25, 125, 625, 1250, 3125, 31250};
        for (int years = 1; years <= 7; years++) {
            likely("an old one, " + years + " years", x, 0, years, above[years - 1], below[years - 1]);
        }
        // 1, 2, 3 behind the first three: 2, 3, 4 of 10.
        x = Checks.laneOf("h00");
        likely("a bald one that grows, 1 year", x, 0, 1, 1, 5);
        likely("a bald one that grows, 2 years", x, 0, 2, 3, 50);
        likely("a bald one that grows, 3 years", x, 0, 3, 3, 125);
    }

    // "(nobody WORRIES by it)": with a worry more it would be a third more, and less reed.
    private static void oddsNobodyWorries() {
        ThatchLane x = Checks.laneOf("h02");
        // 1, 2, .. 7: 2, 3, .. 8 of 10.
        likely("one that is near to worry", x, 0, 7, 63, 15625);
        x = Checks.laneOf("w93,h02");
        likely("one that is near to worry behind another", x, 1, 7, 63, 15625);
    }

    private static void askingChangesNothing() {
        ThatchLane x = Scenes.busy();
        ThatchLane y = Scenes.busy();
        for (int rain : new int[] {0, 9, 20}) {
            for (int house = 0; house <= 5; house++) {
                x.dry(house, rain);
                x.odds(house, 7, 1);
            }
            x.plan(4, rain, 0);
            x.plan(1, rain, 13);
            x.twos(15);
            x.patch(rain, 30, 1);
        }
        c.holds("15 to 19 change nothing", Scenes.portrait(x).equals(Scenes.portrait(y)));
        c.due("15 to 19 leave the image", x.restore(), y.restore());
        c.holds("15 to 19 leave what it keeps", Scenes.portrait(x).equals(Scenes.portrait(y)));
    }
}
