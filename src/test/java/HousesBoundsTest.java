/** Houses, promises 6 to 9, and what a YEAR and RAIN are: each sentence that names a bound, at it and beyond it. */
public final class HousesBoundsTest {
    private static final int NONE = Scenes.NONE, UNKNOWN = Scenes.UNKNOWN, OUTSIDE = Scenes.OUTSIDE;
    private static final int STATE = Scenes.STATE, MIN = Scenes.MIN, MAX = Scenes.MAX;

    private static final Checks c = new Checks("HousesBoundsTest");

    public static void main(String[] args) {
        houseNumbers();
        houseWhats();
        houseTells();
        thirdOfWorry();
        oldAndYoung();
        wigs();
        oddYears();
        combed();
        reedIsNoneAtLeast();
        reedIsTwentyAtMost();
        behindAllThat();
        asNumbers();
        asOfEachKind();
        asIsTheHousesOwnNumber();
        reachesNumbers();
        reachesBehindTen();
        reachesNoneAtLeast();
        westAlone();
        wetNumbers();
        wetIfLess();
        wetBits();
        c.end();
    }

    private static ThatchLane ofHouses(int many) {
        return Checks.laneOf("h93,w92,o91,y90,t94,h55".substring(0, 4 * many - 1));
    }

    // "UNKNOWN (a number names nothing)": HOUSES are numbered from 0.
    private static void houseNumbers() {
        for (int many = 1; many <= 6; many++) {
            ThatchLane x = ofHouses(many);
            c.due("6 the first of " + many, x.house(0, 1), 9);
            c.due("6 the last of " + many, x.house(many - 1, 1), many == 6 ? 5 : 9);
            for (int house : new int[] {MIN, -1, many, many + 1, 6, MAX}) {
                for (int what = -1; what <= 7; what++) {
                    c.due("6 house(" + house + ", " + what + ") of " + many, x.house(house, what), UNKNOWN);
                }
            }
        }
    }

    // "what = 0 KIND .. 6 LOOK": OUTSIDE below and above.
    private static void houseWhats() {
        ThatchLane x = Scenes.busy();
        for (int house = 0; house <= 5; house++) {
            for (int what : new int[] {MIN, -1, 7, 8, 10, MAX}) {
                c.due("6 house(" + house + ", " + what + ")", x.house(house, what), OUTSIDE);
            }
            for (int what = 0; what <= 6; what++) {
                c.holds("6 house(" + house + ", " + what + ") is told", x.house(house, what) >= NONE);
            }
        }
        c.due("6 UNKNOWN ahead of OUTSIDE", x.house(6, 7), UNKNOWN);
        c.due("6 UNKNOWN ahead of OUTSIDE", x.house(-1, -1), UNKNOWN);
    }

    private static void told(String text, ThatchLane x, int... answers) {
        for (int what = 0; what <= 6; what++) {
            c.due("6 house(0, " + what + ") of " + text, x.house(0, what), answers[what]);
        }
    }

    private static void houseTells() {
        told("h00", Checks.laneOf("h00"), 0, 0, 0, 0, 1, 1023, 1);
        told("t99", Checks.laneOf("t99"), 4, 9, 9, 0, 8, 1023, 1);
        ThatchLane x = Checks.laneOf("y29");
        x.comb(0);
        told("y29, combed", x, 3, 0, 9, 1, 2, 1023, 1);
        x.see(0, 1, 6);
        told("y29, combed, seen what can't be", x, 3, 0, 9, 1, 2, 0, NONE);
        told("y of 20", Scenes.inYear(6, "y:20:0"), 3, 20, 0, 0, 20, 1023, 1);
    }

    /** What house(0, 4) and then year() make of it. */
    private static void later(int years, String house, boolean comb, int want) {
        ThatchLane x = Scenes.inYear(years, house);
        if (comb) {
            x.comb(0);
        }
        String call = house + (comb ? ", combed," : "") + " in year " + (years + 1);
        c.due("6 " + call, x.house(0, 4), want);
        c.due("6 " + call + " is odd or even", x.year(), years + 1);
        c.due("6 " + call + ", gone by", x.house(0, 1), want);
        c.due("6 " + call + ", is COMBED no more", x.house(0, 3), 0);
    }

    // "REED of a HOUSE is 1 more, and less by a third of WORRY, rounded down"
    private static void thirdOfWorry() {
        int[] thirds = {0, 0, 0, 1, 1, 1, 2, 2, 2, 3};
        for (int worry = 0; worry <= 9; worry++) {
            later(6, "h:12:" + worry, false, 13 - thirds[worry]);
            later(6, "o:12:" + worry, false, 11 - thirds[worry]);
            later(6, "y:12:" + worry, false, 14 - thirds[worry]);
            later(6, "w:12:" + worry, false, 12);
            later(6, "t:12:" + worry, false, 11);
            later(7, "t:12:" + worry, false, 12);
        }
    }

    // "of an OLD one 2 less than that comes to; of a YOUNG one 1 more than that"
    private static void oldAndYoung() {
        later(6, "o:5:0", false, 4);
        later(6, "o:5:9", false, 1);
        later(6, "y:5:0", false, 7);
        later(6, "y:5:9", false, 4);
    }

    // "of a WIG it is as it was", without any and with most
    private static void wigs() {
        for (int worry : new int[] {0, 9}) {
            later(6, "w:0:" + worry, false, 0);
            later(7, "w:0:" + worry, false, 0);
            later(6, "w:20:" + worry, false, 20);
            later(7, "w:20:" + worry, false, 20);
        }
    }

    // "of a TOUPEE, too, but 1 less if the YEAR is odd then (its new number)"
    private static void oddYears() {
        ThatchLane x = Checks.laneOf("t90");
        int[] reeds = {9, 8, 8, 7, 7, 6, 6};
        for (int year = 1; year <= 6; year++) {
            c.due("6 a toupee ahead of year " + year, x.house(0, 4), reeds[year]);
            x.year();
            c.due("6 a toupee in year " + year, x.house(0, 1), reeds[year]);
        }
    }

    // "all that is COMBED has 3 more besides (a WIG and a TOUPEE, too), and is COMBED no more"
    private static void combed() {
        later(6, "h:12:3", true, 13);
        later(6, "w:12:3", true, 13);
        later(6, "o:12:3", true, 11);
        later(6, "y:12:3", true, 14);
        later(6, "t:12:3", true, 12);
        later(7, "t:12:3", true, 13);
        ThatchLane x = Checks.laneOf("w50");
        x.comb(0);
        x.year();
        c.due("6 3 more", x.house(0, 1), 6);
        c.due("6 not 3 more again", x.house(0, 4), 6);
    }

    // "REED is 0 at least"
    private static void reedIsNoneAtLeast() {
        later(6, "h:1:6", false, 0);
        later(6, "h:0:5", false, 0);
        later(6, "h:0:6", false, 0);
        later(6, "h:0:9", false, 0);
        later(6, "h:2:9", false, 0);
        later(6, "h:3:9", false, 1);
        later(6, "o:1:2", false, 0);
        later(6, "o:0:2", false, 0);
        later(6, "o:4:9", false, 0);
        later(6, "o:3:9", false, 0);
        later(6, "o:5:9", false, 1);
        later(6, "y:0:8", false, 0);
        later(6, "y:1:9", false, 0);
        later(6, "y:0:9", false, 0);
        later(6, "t:1:0", false, 0);
        later(6, "t:0:0", false, 0);
        later(7, "t:0:0", false, 0);
    }

    // "20 at most"
    private static void reedIsTwentyAtMost() {
        later(6, "h:18:0", false, 19);
        later(6, "h:19:0", false, 20);
        later(6, "h:20:0", false, 20);
        later(6, "h:20:3", false, 20);
        later(6, "h:20:6", false, 19);
        later(6, "y:17:0", false, 19);
        later(6, "y:18:0", false, 20);
        later(6, "y:19:0", false, 20);
        later(6, "y:20:0", false, 20);
        later(6, "y:20:6", false, 20);
        later(6, "y:20:9", false, 19);
        later(6, "o:20:0", false, 19);
        later(6, "w:19:0", true, 20);
        later(6, "w:20:0", true, 20);
        later(6, "w:18:0", true, 19);
        later(6, "y:20:0", true, 20);
        later(6, "t:20:0", true, 20);
        later(6, "t:19:0", true, 19);
        later(7, "t:20:0", true, 20);
        later(7, "t:19:0", true, 20);
    }

    // "(behind all that)": nothing is cut off on the way.
    private static void behindAllThat() {
        // 1 more than 20, and then less.
        later(6, "h:20:9", false, 18);
        later(6, "o:20:3", false, 18);
        // 0 and less, and then more: it is made up for first.
        later(6, "y:0:6", false, 0);
        later(6, "h:2:9", true, 1);
        later(6, "o:2:9", true, 0);
        later(6, "o:3:9", true, 0);
        later(6, "o:4:9", true, 1);
        later(6, "t:2:9", true, 2);
        later(6, "y:2:9", true, 2);
        // 3 more than 18 is above 20, but an old one has 4 less of it.
        later(6, "o:20:9", true, 17);
        later(6, "h:20:9", true, 19);
    }

    // "UNKNOWN; OUTSIDE": house, and kind (0 to 4)
    private static void asNumbers() {
        for (int many = 1; many <= 6; many++) {
            ThatchLane x = ofHouses(many);
            c.due("7 the first of " + many, x.as(0, 0), 0);
            c.due("7 the last of " + many, x.as(many - 1, 0), many - 1);
            for (int house : new int[] {MIN, -1, many, 6, MAX}) {
                for (int kind : new int[] {MIN, -1, 0, 4, 5, MAX}) {
                    c.due("7 as(" + house + ", " + kind + ") of " + many, x.as(house, kind), UNKNOWN);
                }
            }
            for (int kind : new int[] {MIN, -1, 5, MAX}) {
                c.due("7 as(0, " + kind + ") of " + many, x.as(0, kind), OUTSIDE);
                c.due("7 as(last, " + kind + ") of " + many, x.as(many - 1, kind), OUTSIDE);
            }
        }
    }

    // "All are HOUSES; a TOUPEE is a WIG, too." "NONE: it is none such (the cast fails)"
    private static void asOfEachKind() {
        String[] isA = {"h", "hw", "ho", "hy", "hwt"};
        for (int own = 0; own <= 4; own++) {
            ThatchLane x = Checks.laneOf("" + Scenes.KINDS.charAt(own) + "00");
            for (int kind = 0; kind <= 4; kind++) {
                boolean such = isA[own].indexOf(Scenes.KINDS.charAt(kind)) >= 0;
                c.due("7 " + own + " as " + kind, x.as(0, kind), such ? 0 : NONE);
            }
            c.due("7 it stays of its kind", x.house(0, 0), own);
        }
    }

    // "its own number (not that of the KIND)"
    private static void asIsTheHousesOwnNumber() {
        ThatchLane x = Checks.laneOf("t00,t00,t00,t00,t00,t00");
        for (int house = 0; house <= 5; house++) {
            c.due("7 as a house", x.as(house, 0), house);
            c.due("7 as a wig", x.as(house, 1), house);
            c.due("7 as an old one", x.as(house, 2), NONE);
            c.due("7 as a toupee", x.as(house, 4), house);
        }
    }

    // "UNKNOWN: house; OUTSIDE: rain (0 to 20)"
    private static void reachesNumbers() {
        for (int many = 1; many <= 6; many++) {
            ThatchLane x = ofHouses(many);
            for (int rain = 0; rain <= 20; rain++) {
                c.due("8 of " + rain + " on the first", x.reaches(0, rain), rain);
                c.due("8 of " + rain + " on the last", x.reaches(many - 1, rain), rain);
            }
            for (int rain : Scenes.WRONG_RAINS) {
                c.due("8 reaches(0, " + rain + ")", x.reaches(0, rain), OUTSIDE);
                c.due("8 reaches(last, " + rain + ")", x.reaches(many - 1, rain), OUTSIDE);
            }
            for (int house : new int[] {MIN, -1, many, 6, MAX}) {
                for (int rain : new int[] {MIN, -1, 0, 20, 21, MAX}) {
                    c.due("8 reaches(" + house + ", " + rain + ")", x.reaches(house, rain), UNKNOWN);
                }
            }
        }
    }

    // "each HOUSE west of it that has 10 REED, or more"
    private static void reachesBehindTen() {
        for (int reed = 8; reed <= 12; reed++) {
            for (char kind : Scenes.KINDS.toCharArray()) {
                ThatchLane x = Scenes.inYear(6, kind + ":" + reed + ":9", "w:0:0");
                c.due("8 behind " + kind + " of " + reed, x.reaches(1, 20), reed >= 10 ? 18 : 20);
            }
        }
        ThatchLane x = Scenes.inYear(6, "w:20:0", "w:0:0");
        c.due("8 behind 20", x.reaches(1, 20), 18);
        x = Checks.laneOf("w90,w00");
        c.due("8 behind 9", x.reaches(1, 20), 20);
        x = Scenes.inYear(6, "w:11:0", "w:0:0");
        x.comb(0);
        c.due("8 behind 11, combed", x.reaches(1, 20), 20);
        x = Scenes.inYear(6, "w:12:0", "w:0:0");
        x.comb(0);
        c.due("8 behind 12, combed", x.reaches(1, 20), 18);
    }

    // "(0 at least)"
    private static void reachesNoneAtLeast() {
        ThatchLane x = Scenes.inYear(6, "w:10:0", "w:10:0", "w:10:0", "w:10:0", "w:10:0", "w:10:0");
        for (int house = 0; house <= 5; house++) {
            for (int rain = 0; rain <= 20; rain++) {
                int left = rain > 2 * house ? rain - 2 * house : 0;
                c.due("8 of " + rain + " behind " + house, x.reaches(house, rain), left);
            }
        }
        c.due("8 of 1 behind one", x.reaches(1, 1), 0);
        c.due("8 of 2 behind one", x.reaches(1, 2), 0);
        c.due("8 of 3 behind one", x.reaches(1, 3), 1);
        c.due("8 of 9 behind five", x.reaches(5, 9), 0);
        c.due("8 of 10 behind five", x.reaches(5, 10), 0);
        c.due("8 of 11 behind five", x.reaches(5, 11), 1);
        c.due("8 of 20 behind five", x.reaches(5, 20), 10);
    }

    // "west of it": neither itself nor what stands to the east.
    private static void westAlone() {
        ThatchLane x = Scenes.inYear(6, "w:0:0", "w:15:0", "w:0:0", "w:15:0");
        int[] of20 = {20, 20, 18, 18};
        for (int house = 0; house <= 3; house++) {
            c.due("8 on house " + house, x.reaches(house, 20), of20[house]);
        }
    }

    // "OUTSIDE: rain (0 to 20); STATE: no LANE."
    private static void wetNumbers() {
        ThatchLane x = ofHouses(6);
        ThatchLane none = new ThatchLane();
        for (int rain : Scenes.WRONG_RAINS) {
            c.due("9 wet(" + rain + ")", x.wet(rain), OUTSIDE);
            c.due("9 wet(" + rain + ") of none", none.wet(rain), OUTSIDE);
        }
        c.due("9 wet(0)", x.wet(0), 0);
        c.due("9 wet(20)", x.wet(20), 63);
        c.due("9 wet(0) of none", none.wet(0), STATE);
        c.due("9 wet(20) of none", none.wet(20), STATE);
    }

    // "It is WET, if its REED is less than what REACHES it."
    private static void wetIfLess() {
        for (int reed = 0; reed <= 20; reed++) {
            ThatchLane x = Scenes.inYear(6, "w:" + reed + ":0");
            for (int rain = 0; rain <= 20; rain++) {
                c.due("9 " + reed + " by " + rain, x.wet(rain), reed < rain ? 1 : 0);
            }
        }
        ThatchLane x = Scenes.inYear(6, "w:10:0", "w:7:0");
        c.due("9 7 reed, of 9 in the lee", x.wet(9), 0);
        c.due("9 7 reed, of 10 in the lee", x.wet(10), 2);
        c.due("9 10 reed are wet by 11, and shelter", x.wet(11), 3);
    }

    // "as bits"
    private static void wetBits() {
        for (int house = 0; house <= 5; house++) {
            StringBuilder text = new StringBuilder();
            for (int i = 0; i <= 5; i++) {
                text.append(i > 0 ? "," : "").append(i == house ? "w00" : "w90");
            }
            ThatchLane x = Checks.laneOf(text.toString());
            c.due("9 house " + house + " alone", x.wet(1), 1 << house);
            c.due("9 house " + house + " alone by 9", x.wet(9), 1 << house);
            c.due("9 all by 10", x.wet(10), 63);
            c.due("9 none by 0", x.wet(0), 0);
        }
        c.due("9 nobody worries by asking", Scenes.plain().wet(20), 1);
        ThatchLane x = Scenes.busy();
        long then = x.digest();
        x.wet(20);
        c.due("9 asking changes nothing", x.digest(), then);
    }
}
