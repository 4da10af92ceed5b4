/** What is done, promises 10 to 14: each sentence that names a bound, at the bound and one beyond it. */
public final class DoneBoundsTest {
    private static final int UNKNOWN = Scenes.UNKNOWN, OUTSIDE = Scenes.OUTSIDE;
    private static final int STATE = Scenes.STATE, FULL = Scenes.FULL, MIN = Scenes.MIN, MAX = Scenes.MAX;

    private static final Checks c = new Checks("DoneBoundsTest");

    public static void main(String[] args) {
        yearNumbers();
        yearOfAll();
        rainNumbers();
        rainWorries();
        rainAllAtOnce();
        rainWets();
        cheerNumbers();
        cheerAtLeast();
        combNumbers();
        combReed();
        combTwice();
        moveNumbers();
        moveBounds();
        moveLeavesTheRest();
        c.end();
    }

    private static ThatchLane ofHouses(int many) {
        return Checks.laneOf("h93,w92,o91,y90,t94,h55".substring(0, 4 * many - 1));
    }

    // "A YEAR goes by: which it is. STATE: no LANE; FULL: 999 did."
    private static void yearNumbers() {
        ThatchLane x = new ThatchLane();
        c.due("10 no lane", x.year(), STATE);
        c.due("10 no lane, no year", x.count(5), 0);
        x = Checks.laneOf("t90");
        // Past the 512th call nothing is promised, but the bound that the document names can't be seen otherwise.
        for (int year = 1; year <= 999; year++) {
            c.due("10 year()", x.year(), year);
        }
        c.due("10 999 did", x.year(), FULL);
        c.due("10 999 did, again", x.year(), FULL);
        c.due("10 there were 999", x.count(5), 999);
        // What would be goes on: 1000 is even, 1001 is odd.
        x.move(0, 0, 0);
        c.due("10 a year more would be so", x.house(0, 4), 1);
        Checks.type(x, "h00");
        x.lane();
        c.due("10 of another lane it is the first", x.year(), 1);
    }

    private static void yearOfAll() {
        ThatchLane x = Checks.laneOf("h90,w90,o90,y90,t90,h99");
        c.due("10 year()", x.year(), 1);
        int[] reeds = {10, 9, 8, 11, 8, 7};
        for (int house = 0; house <= 5; house++) {
            c.due("10 reed of " + house, x.house(house, 1), reeds[house]);
            c.due("10 worry of " + house, x.house(house, 2), house == 5 ? 9 : 0);
        }
        c.due("10 nobody is wet by it", x.count(6), 0);
    }

    // "OUTSIDE: rain (0 to 20); STATE: no LANE"
    private static void rainNumbers() {
        ThatchLane x = ofHouses(6);
        ThatchLane none = new ThatchLane();
        for (int rain : Scenes.WRONG_RAINS) {
            c.due("11 rain(" + rain + ")", x.rain(rain), OUTSIDE);
            c.due("11 rain(" + rain + ") on none", none.rain(rain), OUTSIDE);
        }
        c.due("11 no worry by that", x.count(2), 15);
        c.due("11 rain(0)", x.rain(0), 0);
        c.due("11 no worry by 0", x.count(2), 15);
        c.due("11 rain(20)", x.rain(20), 6);
        c.due("11 6 more by 20", x.count(2), 21);
        c.due("11 rain(0) on none", none.rain(0), STATE);
        c.due("11 rain(20) on none", none.rain(20), STATE);
    }

    // "Who is WET has 1 more WORRY (9 at most)."
    private static void rainWorries() {
        for (int worry = 0; worry <= 9; worry++) {
            ThatchLane x = Checks.laneOf("w5" + worry);
            c.due("11 rain(5) on 5", x.rain(5), 0);
            c.due("11 dry with " + worry, x.house(0, 2), worry);
            c.due("11 rain(6) on 5", x.rain(6), 1);
            c.due("11 wet with " + worry, x.house(0, 2), worry < 9 ? worry + 1 : 9);
        }
        ThatchLane x = Checks.laneOf("w08");
        for (int time = 1; time <= 4; time++) {
            c.due("11 it is wet with 9, too", x.rain(1), 1);
            c.due("11 9 at most", x.house(0, 2), 9);
            c.due("11 and counted", x.count(6), time);
        }
    }

    private static void rainAllAtOnce() {
        ThatchLane x = Scenes.inYear(6, "w:10:0", "w:9:0", "w:8:0", "w:10:0", "w:6:0", "w:5:0");
        // By 10: 10, 8, 8, 8, 6, 6 reach them.
        c.due("11 rain(10)", x.rain(10), 1);
        int[] worries = {0, 0, 0, 0, 0, 1};
        for (int house = 0; house <= 5; house++) {
            c.due("11 worry of " + house, x.house(house, 2), worries[house]);
        }
        c.due("11 rain(11)", x.rain(11), 4);
        c.due("11 how often any was WET", x.count(6), 5);
    }

    /** One house fewer than six is wet by 1; with the last, of 1 reed, it takes 2. */
    private static ThatchLane wetSoOften(int often) {
        ThatchLane x = Checks.laneOf("w00,w00,w00,w00,w00,w10");
        while (x.count(6) + 5 <= often) {
            x.rain(1);
        }
        return x;
    }

    // "FULL: 9000 were WET, or more."
    private static void rainWets() {
        // Past the 512th call, as with the years.
        ThatchLane x = wetSoOften(8995);
        c.due("11 8995 were", x.count(6), 8995);
        c.due("11 then 9000", x.rain(1), 5);
        c.due("11 9000 were", x.rain(1), FULL);
        c.due("11 9000 were, and none would be", x.rain(0), FULL);
        c.due("11 OUTSIDE ahead of FULL, below", x.rain(-1), OUTSIDE);
        c.due("11 OUTSIDE ahead of FULL, above", x.rain(21), OUTSIDE);
        c.due("11 they stay 9000", x.count(6), 9000);
        c.due("11 what would be wet is told yet", x.wet(1), 31);
        x = wetSoOften(8990);
        c.due("11 8990, then 6", x.rain(2), 6);
        c.due("11 8996 are less than 9000", x.rain(0), 0);
        c.due("11 8996, then 6", x.rain(2), 6);
        c.due("11 9002 were", x.count(6), 9002);
        c.due("11 more than 9000 were", x.rain(1), FULL);
        x = Checks.laneOf("w00");
        while (x.count(6) < 8999) {
            x.rain(20);
        }
        c.due("11 8999, then 1", x.rain(20), 1);
        c.due("11 9000 were", x.rain(20), FULL);
        c.due("11 a year goes by, for all that", x.year(), 1);
        Checks.type(x, "w00");
        x.lane();
        c.due("11 another lane was never wet", x.rain(20), 1);
    }

    // "UNKNOWN."
    private static void cheerNumbers() {
        for (int many = 1; many <= 6; many++) {
            ThatchLane x = ofHouses(many);
            for (int house : new int[] {MIN, -1, many, 6, MAX}) {
                c.due("12 cheer(" + house + ") of " + many, x.cheer(house), UNKNOWN);
            }
            c.due("12 the first of " + many, x.cheer(0), 1);
            c.due("12 the last of " + many, x.cheer(many - 1), new int[] {0, 0, 0, 0, 2, 3}[many - 1]);
        }
    }

    // "Who is CHEERED has 2 less WORRY (0 at least)."
    private static void cheerAtLeast() {
        int[] then = {0, 0, 0, 1, 2, 3, 4, 5, 6, 7};
        for (int worry = 0; worry <= 9; worry++) {
            for (char kind : Scenes.KINDS.toCharArray()) {
                ThatchLane x = Checks.laneOf("" + kind + 5 + worry + ",h59");
                c.due("12 cheer() of " + kind + worry, x.cheer(0), then[worry]);
                c.due("12 worry of " + kind + worry, x.house(0, 2), then[worry]);
                c.due("12 reed of " + kind + worry, x.house(0, 1), 5);
                c.due("12 the other worries on", x.house(1, 2), 9);
            }
        }
    }

    // "UNKNOWN; STATE"
    private static void combNumbers() {
        for (int many = 1; many <= 6; many++) {
            ThatchLane x = ofHouses(many);
            for (int house : new int[] {MIN, -1, many, 6, MAX}) {
                c.due("13 comb(" + house + ") of " + many, x.comb(house), UNKNOWN);
            }
            c.due("13 none is COMBED", x.count(3), 0);
            c.due("13 the last of " + many, x.comb(many - 1), many == 6 ? 3 : 7);
            c.due("13 it alone is COMBED", x.count(3), 1);
            c.due("13 it is", x.house(many - 1, 3), 1);
        }
    }

    // "Who is COMBED has 2 less REED." "STATE: .. or has less than 2 REED."
    private static void combReed() {
        for (int reed = 0; reed <= 20; reed++) {
            for (char kind : Scenes.KINDS.toCharArray()) {
                ThatchLane x = Scenes.inYear(6, kind + ":" + reed + ":5");
                boolean may = reed >= 2;
                c.due("13 comb() of " + kind + reed, x.comb(0), may ? reed - 2 : STATE);
                c.due("13 reed of " + kind + reed, x.house(0, 1), may ? reed - 2 : reed);
                c.due("13 COMBED of " + kind + reed, x.house(0, 3), may ? 1 : 0);
                c.due("13 worry of " + kind + reed, x.house(0, 2), 5);
            }
        }
    }

    // "STATE: it is COMBED": with what it has then, enough or not.
    private static void combTwice() {
        for (int reed = 2; reed <= 9; reed++) {
            ThatchLane x = Checks.laneOf("w" + reed + "0");
            x.comb(0);
            c.due("13 again, of " + reed, x.comb(0), STATE);
            c.due("13 no less again, of " + reed, x.house(0, 1), reed - 2);
            x.year();
            c.due("13 3 more, of " + reed, x.house(0, 1), reed + 1);
            c.due("13 again behind a year, of " + reed, x.comb(0), reed - 1);
        }
        ThatchLane x = Checks.laneOf("o20,w50");
        x.comb(0);
        c.due("13 the other is not COMBED by that", x.comb(1), 3);
        x.year();
        // 0, and 3 more, and 1 less for an old one.
        c.due("13 2 again", x.comb(0), 0);
    }

    // "UNKNOWN; OUTSIDE"
    private static void moveNumbers() {
        for (int many = 1; many <= 6; many++) {
            ThatchLane x = ofHouses(many);
            for (int house : new int[] {MIN, -1, many, 6, MAX}) {
                for (int kind : new int[] {-1, 0, 4, 5}) {
                    for (int worry : new int[] {-1, 0, 9, 10}) {
                        c.due("14 move(" + house + ", " + kind + ", " + worry + ") of " + many,
                            x.move(house, kind, worry), UNKNOWN);
                    }
                }
            }
            c.due("14 the last of " + many, x.move(many - 1, 1, 9), new int[] {0, 1, 2, 3, 4, 0}[many - 1]);
            c.due("14 it is moved", x.house(many - 1, 0), 1);
        }
    }

    // "kind (0 to 4), worry (0 to 9)"
    private static void moveBounds() {
        ThatchLane x = ofHouses(2);
        for (int kind : new int[] {MIN, -1, 5, MAX}) {
            for (int worry : new int[] {MIN, -1, 0, 9, 10, MAX}) {
                c.due("14 move(0, " + kind + ", " + worry + ")", x.move(0, kind, worry), OUTSIDE);
            }
        }
        for (int worry : new int[] {MIN, -1, 10, MAX}) {
            for (int kind = 0; kind <= 4; kind++) {
                c.due("14 move(0, " + kind + ", " + worry + ")", x.move(0, kind, worry), OUTSIDE);
            }
        }
        c.due("14 kind as it was", x.house(0, 0), 0);
        c.due("14 worry as it was", x.house(0, 2), 3);
        int was = 0;
        for (int kind = 0; kind <= 4; kind++) {
            for (int worry = 0; worry <= 9; worry++) {
                c.due("14 of which it was", x.move(0, kind, worry), was);
                c.due("14 kind", x.house(0, 0), kind);
                c.due("14 worry", x.house(0, 2), worry);
                was = kind;
            }
        }
        c.due("14 the other stays", x.house(1, 2), 2);
    }

    // "a HOUSE is of another KIND, with another WORRY": nothing else is other.
    private static void moveLeavesTheRest() {
        ThatchLane x = Scenes.busy();
        x.move(3, 4, 0);
        x.move(3, 3, 9);
        ThatchLane y = Scenes.busy();
        int[] same = {1, 3};
        for (int what : same) {
            c.due("14 house(3, " + what + ")", x.house(3, what), y.house(3, what));
        }
        for (int what = 0; what <= 9; what++) {
            if (what != 2) {
                c.due("14 count(" + what + ")", x.count(what), y.count(what));
            }
        }
        for (int house = 0; house <= 5; house++) {
            for (int what = 0; what <= 6; what++) {
                if (house != 3) {
                    c.due("14 house(" + house + ", " + what + ")", x.house(house, what), y.house(house, what));
                }
            }
        }
        c.due("14 the image stays", x.restore(), y.restore());
        c.holds("14 and is as it was kept", Scenes.portrait(x).equals(Scenes.portrait(y)));
    }
}
