/** For each promise: ordinary inputs, the edges that the document names, and wrong inputs; worked out by hand. */
public final class PromiseTest {
    private static final int NONE = -1, UNKNOWN = -101, OUTSIDE = -102, STATE = -103, FULL = -104;
    private static final int MIN = Integer.MIN_VALUE, MAX = Integer.MAX_VALUE;

    private static final Checks c = new Checks("PromiseTest");

    public static void main(String[] args) {
        newObject();
        letter();
        blank();
        fault();
        lane();
        house();
        growth();
        as();
        reaches();
        wet();
        year();
        rain();
        cheer();
        comb();
        move();
        dry();
        plan();
        twos();
        patch();
        odds();
        see();
        worries();
        look();
        forget();
        ages();
        image();
        restore();
        count();
        digest();
        order();
        c.end();
    }

    private static void newObject() {
        ThatchLane x = new ThatchLane();
        for (int what = 0; what <= 9; what++) {
            c.due("1 count(" + what + ")", x.count(what), 0);
        }
        c.due("1 house", x.house(0, 0), UNKNOWN);
        c.due("1 as", x.as(0, 0), UNKNOWN);
        c.due("1 reaches", x.reaches(0, 0), UNKNOWN);
        c.due("1 wet", x.wet(0), STATE);
        c.due("1 year", x.year(), STATE);
        c.due("1 rain", x.rain(0), STATE);
        c.due("1 cheer", x.cheer(0), UNKNOWN);
        c.due("1 comb", x.comb(0), UNKNOWN);
        c.due("1 move", x.move(0, 0, 0), UNKNOWN);
        c.due("1 dry", x.dry(0, 0), UNKNOWN);
        c.due("1 plan", x.plan(1, 0, 0), STATE);
        c.due("1 twos", x.twos(0), STATE);
        c.due("1 patch", x.patch(0, 0, 0), STATE);
        c.due("1 odds", x.odds(0, 1, 0), UNKNOWN);
        c.due("1 see", x.see(0, 1, 0), UNKNOWN);
        c.due("1 forget", x.forget(), 0);
        c.due("1 ages", x.ages(1, 0, 0), STATE);
        c.due("1 image", x.image(), STATE);
        c.due("1 restore", x.restore(), STATE);
        c.due("1 lane", x.lane(), STATE);
        c.due("1 fault", x.fault(), 0);
        c.due("1 blank", x.blank(), 0);
    }

    private static void letter() {
        ThatchLane x = new ThatchLane();
        c.due("2 letter(31)", x.letter(31), OUTSIDE);
        c.due("2 letter(127)", x.letter(127), OUTSIDE);
        c.due("2 letter(-1)", x.letter(-1), OUTSIDE);
        c.due("2 letter(MIN)", x.letter(MIN), OUTSIDE);
        c.due("2 letter(MAX)", x.letter(MAX), OUTSIDE);
        c.due("2 none came", x.count(8), 0);
        c.due("2 letter(32)", x.letter(32), 1);
        c.due("2 letter(126)", x.letter(126), 2);
        for (int many = 3; many <= 26; many++) {
            c.due("2 letter no. " + many, x.letter('h'), many);
        }
        c.due("2 a 27th", x.letter('h'), FULL);
        c.due("2 a wrong one ahead of FULL", x.letter(127), OUTSIDE);
        c.due("2 letters still", x.count(8), 26);
        c.due("2 not the lane", x.count(0), 0);
    }

    private static void blank() {
        ThatchLane x = new ThatchLane();
        Checks.type(x, "h00,x");
        c.due("3 blank()", x.blank(), 5);
        c.due("3 blank() again", x.blank(), 0);
        c.due("3 the first again", x.letter('o'), 1);
        c.due("3 a fresh page", x.fault(), 1);
        x = new ThatchLane();
        Checks.type(x, "hhhhhhhhhhhhhhhhhhhhhhhhhh");
        c.due("3 blank() of a full one", x.blank(), 26);
        c.due("3 room again", x.letter('h'), 1);
    }

    private static int faultOf(String text) {
        ThatchLane x = new ThatchLane();
        Checks.type(x, text);
        int place = x.fault();
        c.due("4 the page is left by fault", x.count(8), text.length());
        return place;
    }

    private static void fault() {
        String six = "h00,w11,o22,y33,t99,h09";
        String[] texts = {"", "h", "h9", "h90", "h90,", "h90,w", "x", "H00", "0", ",", "hh", "h0h", "h/0", "h:0", "h0/",
            "h0:", "h00;", "h00h", "h000", "h00,,", "h00,w1,", "h00,w11,x", "xh00", " h00", "h 0", "h00, w", six,
            six + ",", six + "h", six + ",h", six + ",h0", "h00xx00", "h00,w1w,x"};
        int[] places = {0, 1, 2, 3, 4, 5, 0, 0, 0, 0, 1, 2, 1, 1, 2,
            2, 3, 3, 3, 4, 6, 8, 0, 0, 1, 4, 23,
            23, 23, 23, 23, 3, 6};
        for (int i = 0; i < texts.length; i++) {
            c.due("4 fault() of '" + texts[i] + "'", faultOf(texts[i]), places[i]);
        }
        for (int code = 32; code <= 126; code++) {
            String sign = String.valueOf((char) code);
            boolean kind = "hwoyt".contains(sign);
            boolean digit = code >= '0' && code <= '9';
            c.due("4 first " + sign, faultOf(sign), kind ? 1 : 0);
            c.due("4 second " + sign, faultOf("h" + sign), digit ? 2 : 1);
            c.due("4 third " + sign, faultOf("h0" + sign), digit ? 3 : 2);
            c.due("4 fourth " + sign, faultOf("h00" + sign), code == ',' ? 4 : 3);
            c.due("4 fifth " + sign, faultOf("h00," + sign), kind ? 5 : 4);
        }
    }

    private static void lane() {
        String[] none = {"", "h", "h0", "h00,", "h00,w", "h00,w1", "h00,w11,", "x00", "h00,w1,", "h00;w11", "h00w11",
            "h00,h00,h00,h00,h00,h00,", "h00,h00,h00,h00,h00,h00,h0", "h000", "h00h00,"};
        for (String text : none) {
            ThatchLane x = new ThatchLane();
            Checks.type(x, text);
            c.due("5 lane() of '" + text + "'", x.lane(), STATE);
            c.due("5 the page stays", x.count(8), text.length());
            c.due("5 none read", x.count(9), 0);
        }
        String six = "h09,w18,o27,y36,t45,h54";
        for (int houses = 1; houses <= 6; houses++) {
            ThatchLane x = new ThatchLane();
            Checks.type(x, six.substring(0, 4 * houses - 1));
            c.due("5 lane()", x.lane(), houses);
            c.due("5 the page is empty", x.count(8), 0);
            c.due("5 houses", x.count(0), houses);
            int[] kinds = {0, 1, 2, 3, 4, 0};
            for (int i = 0; i < houses; i++) {
                c.due("5 kind", x.house(i, 0), kinds[i]);
                c.due("5 reed", x.house(i, 1), i);
                c.due("5 worry", x.house(i, 2), 9 - i);
                c.due("5 combed", x.house(i, 3), 0);
            }
            c.due("5 no more", x.house(houses, 0), UNKNOWN);
        }
        anotherLane();
    }

    private static void anotherLane() {
        ThatchLane x = Checks.laneOf("h90,h55");
        x.year();
        x.rain(20);
        x.comb(0);
        x.see(0, 1, 1);
        x.image();
        Checks.type(x, "x");
        c.due("5 not read", x.lane(), STATE);
        c.due("5 the old one stays", x.count(0), 2);
        c.due("5 its years stay", x.count(5), 1);
        c.due("5 its sights stay", x.count(7), 1);
        c.due("5 its image stays", x.restore(), 1);
        x.blank();
        Checks.type(x, "t31");
        c.due("5 another", x.lane(), 1);
        int[] counts = {1, 3, 1, 0, 0, 0, 0, 0, 0, 2};
        for (int what = 0; what <= 9; what++) {
            c.due("5 count(" + what + ") of another", x.count(what), counts[what]);
        }
        c.due("5 all was gone", x.restore(), STATE);
        c.due("5 the second house is gone", x.house(1, 0), UNKNOWN);
        Checks.type(x, "h90,h55");
        c.due("5 a third", x.lane(), 2);
        c.due("5 not combed any more", x.house(0, 3), 0);
        c.due("5 as read", x.house(1, 1), 5);
    }

    private static void house() {
        ThatchLane x = Checks.laneOf("y47,t30");
        int[] first = {3, 4, 7, 0, 4, 1023, 3};
        for (int what = 0; what <= 5; what++) {
            c.due("6 house(0, " + what + ")", x.house(0, what), first[what]);
        }
        c.due("6 house(1, 4)", x.house(1, 4), 2);
        c.due("6 asking changes nothing", x.house(1, 1), 3);
        x.comb(0);
        c.due("6 it is combed", x.house(0, 3), 1);
        c.due("6 house(0, -1)", x.house(0, -1), OUTSIDE);
        c.due("6 house(0, 7)", x.house(0, 7), OUTSIDE);
        c.due("6 house(0, MIN)", x.house(0, MIN), OUTSIDE);
        c.due("6 house(0, MAX)", x.house(0, MAX), OUTSIDE);
        c.due("6 house(-1, 0)", x.house(-1, 0), UNKNOWN);
        c.due("6 house(2, 0)", x.house(2, 0), UNKNOWN);
        c.due("6 house(MIN, 0)", x.house(MIN, 0), UNKNOWN);
        c.due("6 house(MAX, 0)", x.house(MAX, 0), UNKNOWN);
        c.due("6 both wrong", x.house(2, 7), UNKNOWN);
    }

    /** What REED comes to in the first YEAR and in the second, each KIND with each WORRY, combed or not. */
    private static void growth() {
        String kinds = "hwoyt";
        int[] inFirst = {1, 0, -1, 2, -1};
        int[] inSecond = {1, 0, -1, 2, 0};
        for (int kind = 0; kind < 5; kind++) {
            boolean worries = kind == 0 || kind == 2 || kind == 3;
            for (int reed = 0; reed <= 9; reed++) {
                for (int worry = 0; worry <= 9; worry++) {
                    int third = worry < 3 ? 0 : worry < 6 ? 1 : worry < 9 ? 2 : 3;
                    int less = worries ? third : 0;
                    ThatchLane x = Checks.laneOf("" + kinds.charAt(kind) + reed + worry);
                    int want = Math.max(0, reed + inFirst[kind] - less);
                    String call = "6 a year of " + kinds.charAt(kind) + reed + worry;
                    c.due(call, x.house(0, 4), want);
                    c.due("10 year", x.year(), 1);
                    c.due(call, x.house(0, 1), want);
                    c.due(call + " leaves worry", x.house(0, 2), worry);
                    want = Math.max(0, want + inSecond[kind] - less);
                    c.due(call + ", another", x.house(0, 4), want);
                    if (reed >= 2) {
                        x = Checks.laneOf("" + kinds.charAt(kind) + reed + worry);
                        x.comb(0);
                        want = Math.max(0, reed - 2 + 3 + inFirst[kind] - less);
                        c.due(call + ", combed", x.house(0, 4), want);
                        x.year();
                        c.due(call + ", combed", x.house(0, 1), want);
                        c.due("10 combed no more", x.house(0, 3), 0);
                        want = Math.max(0, want + inSecond[kind] - less);
                        c.due(call + ", combed no more", x.house(0, 4), want);
                    }
                }
            }
        }
    }

    private static void as() {
        ThatchLane x = Checks.laneOf("h00,w00,o00,y00,t00");
        int[][] rows = {{0, -1, -1, -1, -1}, {1, 1, -1, -1, -1}, {2, -1, 2, -1, -1}, {3, -1, -1, 3, -1},
            {4, 4, -1, -1, 4}};
        for (int house = 0; house < 5; house++) {
            for (int kind = 0; kind < 5; kind++) {
                c.due("7 as(" + house + ", " + kind + ")", x.as(house, kind), rows[house][kind]);
            }
            c.due("7 as(.., -1)", x.as(house, -1), OUTSIDE);
            c.due("7 as(.., 5)", x.as(house, 5), OUTSIDE);
        }
        c.due("7 as(0, MIN)", x.as(0, MIN), OUTSIDE);
        c.due("7 as(0, MAX)", x.as(0, MAX), OUTSIDE);
        c.due("7 as(-1, 0)", x.as(-1, 0), UNKNOWN);
        c.due("7 as(5, 0)", x.as(5, 0), UNKNOWN);
        c.due("7 both wrong", x.as(5, 5), UNKNOWN);
        x.move(0, 4, 0);
        c.due("7 moved", x.as(0, 1), 0);
        c.due("7 moved", x.as(0, 4), 0);
    }

    private static void reaches() {
        ThatchLane x = Checks.laneOf("h90,h80,w90,y90,o00,h00");
        c.due("8 reaches(5, 20)", x.reaches(5, 20), 20);
        x.year();
        // Now 10, 9, 9, 11, 0, 1: houses 0 and 3 shelter those east of them.
        int[] of9 = {9, 7, 7, 7, 5, 5};
        int[] of3 = {3, 1, 1, 1, 0, 0};
        for (int house = 0; house < 6; house++) {
            c.due("8 reaches(" + house + ", 9)", x.reaches(house, 9), of9[house]);
            c.due("8 reaches(" + house + ", 3)", x.reaches(house, 3), of3[house]);
            c.due("8 reaches(" + house + ", 0)", x.reaches(house, 0), 0);
            c.due("8 reaches(" + house + ", 20)", x.reaches(house, 20), of9[house] + 11);
        }
        c.due("8 reaches(0, -1)", x.reaches(0, -1), OUTSIDE);
        c.due("8 reaches(0, 21)", x.reaches(0, 21), OUTSIDE);
        c.due("8 reaches(0, MIN)", x.reaches(0, MIN), OUTSIDE);
        c.due("8 reaches(0, MAX)", x.reaches(0, MAX), OUTSIDE);
        c.due("8 reaches(-1, 0)", x.reaches(-1, 0), UNKNOWN);
        c.due("8 reaches(6, 0)", x.reaches(6, 0), UNKNOWN);
        c.due("8 both wrong", x.reaches(6, 21), UNKNOWN);
    }

    private static void wet() {
        ThatchLane x = Checks.laneOf("h90,h80,w90,y90,o00,h00");
        c.due("9 wet(9)", x.wet(9), 50);
        c.due("9 wet(0)", x.wet(0), 0);
        c.due("9 wet(1)", x.wet(1), 48);
        c.due("9 wet(20)", x.wet(20), 63);
        x.year();
        // 10, 9, 9, 11, 0, 1.
        c.due("9 wet(10)", x.wet(10), 48);
        c.due("9 wet(11)", x.wet(11), 49);
        c.due("9 wet(12)", x.wet(12), 55);
        c.due("9 wet(13)", x.wet(13), 55);
        c.due("9 wet(14)", x.wet(14), 63);
        c.due("9 wet(5)", x.wet(5), 16);
        c.due("9 wet(4)", x.wet(4), 0);
        c.due("9 nobody worries by it", x.count(2), 0);
        c.due("9 it is not counted", x.count(6), 0);
        c.due("9 wet(-1)", x.wet(-1), OUTSIDE);
        c.due("9 wet(21)", x.wet(21), OUTSIDE);
        c.due("9 wet(MIN)", x.wet(MIN), OUTSIDE);
        c.due("9 wet(MAX)", x.wet(MAX), OUTSIDE);
        c.due("9 no lane", new ThatchLane().wet(20), STATE);
        c.due("9 both wrong", new ThatchLane().wet(21), OUTSIDE);
    }

    private static void year() {
        ThatchLane x = Checks.laneOf("h98,y90,w95,o39");
        for (int year = 1; year <= 6; year++) {
            c.due("10 year()", x.year(), year);
            c.due("10 count(5)", x.count(5), year);
        }
        c.due("10 a worrying one", x.house(0, 1), 3);
        c.due("10 a young one is full", x.house(1, 1), 20);
        c.due("10 a wig", x.house(2, 1), 9);
        c.due("10 an old one is bald", x.house(3, 1), 0);
        x.comb(1);
        c.due("10 20 at most, behind all that", x.house(1, 4), 20);
        x.year();
        c.due("10 20 at most, behind all that", x.house(1, 1), 20);
        c.due("10 no lane", new ThatchLane().year(), STATE);
        // More than 512 calls, but the bound that the document names can't be seen otherwise.
        x = Checks.laneOf("t95");
        for (int year = 1; year <= 999; year++) {
            c.due("10 year()", x.year(), year);
        }
        c.due("10 999 did", x.year(), FULL);
        c.due("10 it stays", x.count(5), 999);
    }

    private static void rain() {
        ThatchLane x = Checks.laneOf("h90,h48,w59,y53,o00,h00");
        c.due("11 rain(0)", x.rain(0), 0);
        c.due("11 rain(5)", x.rain(5), 3);
        int[] worries = {0, 9, 9, 3, 1, 1};
        for (int house = 0; house < 6; house++) {
            c.due("11 worry " + house, x.house(house, 2), worries[house]);
        }
        c.due("11 count(6)", x.count(6), 3);
        c.due("11 rain(20)", x.rain(20), 6);
        int[] then = {1, 9, 9, 4, 2, 2};
        for (int house = 0; house < 6; house++) {
            c.due("11 worry " + house, x.house(house, 2), then[house]);
        }
        c.due("11 count(6)", x.count(6), 9);
        c.due("11 no reed is lost", x.count(1), 23);
        c.due("11 no year goes by", x.count(5), 0);
        c.due("11 rain(-1)", x.rain(-1), OUTSIDE);
        c.due("11 rain(21)", x.rain(21), OUTSIDE);
        c.due("11 rain(MIN)", x.rain(MIN), OUTSIDE);
        c.due("11 rain(MAX)", x.rain(MAX), OUTSIDE);
        c.due("11 no lane", new ThatchLane().rain(5), STATE);
        c.due("11 both wrong", new ThatchLane().rain(21), OUTSIDE);
        // More than 512 calls, but the bound that the document names can't be seen otherwise.
        x = Checks.laneOf("w00,w00,w00,w00,w00,w10");
        for (int time = 1; time <= 1799; time++) {
            c.due("11 five a time", x.rain(1), 5);
        }
        c.due("11 six then", x.rain(2), 6);
        c.due("11 9001", x.count(6), 9001);
        c.due("11 9000 were wet, or more", x.rain(0), FULL);
        c.due("11 OUTSIDE ahead of FULL", x.rain(21), OUTSIDE);
        x = Checks.laneOf("w00,w00,w00,w00,w00");
        for (int time = 1; time <= 1800; time++) {
            c.due("11 five a time", x.rain(1), 5);
        }
        c.due("11 9000 were wet", x.rain(1), FULL);
        c.due("11 they stay", x.count(6), 9000);
        x = Checks.laneOf("w00,w00,w00,w00,w10");
        for (int time = 1; time <= 1799; time++) {
            c.due("11 five a time", x.rain(2), 5);
        }
        c.due("11 four then", x.rain(1), 4);
        c.due("11 8999 were wet", x.count(6), 8999);
        c.due("11 8999 are less", x.rain(1), 4);
        c.due("11 9003 were wet", x.rain(1), FULL);
    }

    private static void cheer() {
        ThatchLane x = Checks.laneOf("h09,w01,o02,t00");
        int[] down = {7, 5, 3, 1, 0, 0};
        for (int want : down) {
            c.due("12 cheer(0)", x.cheer(0), want);
            c.due("12 worry", x.house(0, 2), want);
        }
        c.due("12 cheer(1)", x.cheer(1), 0);
        c.due("12 cheer(2)", x.cheer(2), 0);
        c.due("12 cheer(3)", x.cheer(3), 0);
        c.due("12 cheer(-1)", x.cheer(-1), UNKNOWN);
        c.due("12 cheer(4)", x.cheer(4), UNKNOWN);
        c.due("12 cheer(MIN)", x.cheer(MIN), UNKNOWN);
        c.due("12 cheer(MAX)", x.cheer(MAX), UNKNOWN);
    }

    private static void comb() {
        ThatchLane x = Checks.laneOf("h20,w90,o19,t00,h30");
        c.due("13 comb(0)", x.comb(0), 0);
        c.due("13 comb(0) again", x.comb(0), STATE);
        c.due("13 comb(1)", x.comb(1), 7);
        c.due("13 it is combed, with reed enough", x.comb(1), STATE);
        c.due("13 comb(2)", x.comb(2), STATE);
        c.due("13 comb(3)", x.comb(3), STATE);
        c.due("13 comb(4)", x.comb(4), 1);
        int[] reeds = {0, 7, 1, 0, 1};
        int[] combed = {1, 1, 0, 0, 1};
        for (int house = 0; house < 5; house++) {
            c.due("13 reed " + house, x.house(house, 1), reeds[house]);
            c.due("13 combed " + house, x.house(house, 3), combed[house]);
        }
        x.year();
        c.due("13 a wig is combed: 3 more", x.house(1, 1), 10);
        c.due("13 again behind a year", x.comb(1), 8);
        c.due("13 comb(-1)", x.comb(-1), UNKNOWN);
        c.due("13 comb(5)", x.comb(5), UNKNOWN);
        c.due("13 comb(MIN)", x.comb(MIN), UNKNOWN);
        c.due("13 comb(MAX)", x.comb(MAX), UNKNOWN);
    }

    private static void move() {
        ThatchLane x = Checks.laneOf("h20,t95");
        x.comb(1);
        c.due("14 move(1, 3, 9)", x.move(1, 3, 9), 4);
        int[] then = {3, 7, 9, 1, 9};
        for (int what = 0; what <= 4; what++) {
            c.due("14 house(1, " + what + ")", x.house(1, what), then[what]);
        }
        c.due("14 move(1, 0, 0)", x.move(1, 0, 0), 3);
        c.due("14 move(1, 0, 1)", x.move(1, 0, 1), 0);
        c.due("14 the same kind, another worry", x.house(1, 2), 1);
        c.due("14 the other one stays", x.house(0, 2), 0);
        c.due("14 move(0, -1, 0)", x.move(0, -1, 0), OUTSIDE);
        c.due("14 move(0, 5, 0)", x.move(0, 5, 0), OUTSIDE);
        c.due("14 move(0, 1, -1)", x.move(0, 1, -1), OUTSIDE);
        c.due("14 move(0, 1, 10)", x.move(0, 1, 10), OUTSIDE);
        c.due("14 move(0, MIN, MAX)", x.move(0, MIN, MAX), OUTSIDE);
        c.due("14 move(2, 0, 0)", x.move(2, 0, 0), UNKNOWN);
        c.due("14 move(-1, 0, 0)", x.move(-1, 0, 0), UNKNOWN);
        c.due("14 all wrong", x.move(2, 5, 10), UNKNOWN);
        c.due("14 nothing changed", x.house(0, 0), 0);
        c.due("14 nothing changed", x.house(0, 2), 0);
    }

    private static void dry() {
        ThatchLane x = Checks.laneOf("o90,h93,h96,t90,w50");
        c.due("15 an old one", x.dry(0, 5), 5);
        c.due("15 at once", x.dry(0, 10), 0);
        c.due("15 as far as it has it", x.dry(0, 9), 1);
        c.due("15 never", x.dry(0, 0), NONE);
        c.due("15 one that stays", x.dry(1, 9), NONE);
        c.due("15 a toupee", x.dry(3, 8), 3);
        c.due("15 a toupee", x.dry(3, 9), 1);
        c.due("15 a toupee, 17 years", x.dry(3, 1), 17);
        c.due("15 a wig", x.dry(4, 5), NONE);
        c.due("15 a wig at once", x.dry(4, 6), 0);
        c.due("15 nothing is done by it", x.count(5), 0);
        c.due("15 nothing is done by it", x.house(0, 1), 9);
        x.year();
        c.due("15 by the years that there were", x.dry(3, 8), 2);
        // The old one to the west has 20, and shelters for 10 years: it has 9 behind 11.
        x = Checks.laneOf("y90,w40");
        for (int i = 0; i < 6; i++) {
            x.year();
        }
        x.move(0, 2, 0);
        c.due("15 in the lee", x.reaches(1, 6), 4);
        c.due("15 until it shelters no more", x.dry(1, 5), 11);
        // 40 YEARS are told, 41 are not: a toupee of 20 loses 1 each odd year.
        x = Checks.laneOf("y90");
        for (int i = 0; i < 6; i++) {
            x.year();
        }
        x.move(0, 4, 0);
        c.due("15 behind 39 years", x.dry(0, 1), 39);
        x.year();
        x.year();
        x.move(0, 3, 0);
        x.year();
        x.move(0, 4, 0);
        c.due("15 20 again, in an odd year", x.house(0, 1), 20);
        c.due("15 behind 40 years", x.dry(0, 1), 40);
        // 3, then 5, 4, 3, 2.
        x = Checks.laneOf("o50");
        x.comb(0);
        c.due("15 combed in the first year alone", x.dry(0, 3), 4);
        c.due("15 dry(-1, 0)", x.dry(-1, 0), UNKNOWN);
        c.due("15 dry(1, 0)", x.dry(1, 0), UNKNOWN);
        c.due("15 dry(0, -1)", x.dry(0, -1), OUTSIDE);
        c.due("15 dry(0, 21)", x.dry(0, 21), OUTSIDE);
        c.due("15 both wrong", x.dry(1, 21), UNKNOWN);
    }

    private static void plan() {
        ThatchLane x = Checks.laneOf("h33,h53");
        // Behind a year: 3 or 4, 5 or 6.
        c.due("16 fewest wet", x.plan(1, 4, 0), 0);
        c.due("16 reed", x.plan(1, 4, 1), 9);
        c.due("16 whom", x.plan(1, 4, 10), 0);
        c.due("16 not so many", x.plan(1, 4, 11), NONE);
        c.due("16 not so many", x.plan(1, 4, 12), NONE);
        c.due("16 not so many", x.plan(1, 4, 13), NONE);
        c.due("16 the other one", x.plan(1, 6, 10), 1);
        c.due("16 one is wet", x.plan(1, 6, 0), 1);
        c.due("16 of like ones the first", x.plan(1, 3, 10), 0);
        c.due("16 nobody is cheered by it", x.count(2), 6);
        c.due("16 no year goes by", x.count(5), 0);
        // 4 years: cheered once it grows by 1 a year; each earlier one is 1 more.
        c.due("16 four years, reed", x.plan(4, 20, 1), 15);
        int[] four = {0, 1, 0, 0};
        for (int i = 0; i < 4; i++) {
            c.due("16 four years, whom " + i, x.plan(4, 20, 10 + i), four[i]);
        }
        // Fewest wet ahead of most reed: to cheer house 1 would be worth as much reed, but no dry one.
        x = Checks.laneOf("w50,h46");
        c.due("16 fewest first", x.plan(1, 4, 0), 0);
        c.due("16 fewest first, whom", x.plan(1, 4, 10), 1);
        c.due("16 a year more than it takes", x.plan(2, 4, 10), 1);
        // One with no worry may be cheered.
        x = Checks.laneOf("h00");
        c.due("16 no worry", x.plan(3, 20, 12), 0);
        c.due("16 no worry", x.plan(3, 20, 1), 3);
        c.due("16 no worry", x.plan(3, 20, 0), 1);
        c.due("16 by no rain", x.plan(3, 0, 0), 0);
        // Six wet ones without any reed: all ways are alike, whatever was planned ahead of it.
        x = Checks.laneOf("o10,o10,o10,o10,o10,o43");
        c.due("16 the last", x.plan(1, 3, 10), 5);
        for (int i = 0; i < 4; i++) {
            x.year();
        }
        c.due("16 all bald, whom", x.plan(1, 20, 10), 0);
        c.due("16 all bald, wet", x.plan(1, 20, 0), 6);
        c.due("16 all bald, reed", x.plan(1, 20, 1), 0);
        planRefusals();
    }

    private static void planRefusals() {
        ThatchLane x = Checks.laneOf("h33,h53");
        int[] wrongWhats = {-1, 2, 9, 14, MIN, MAX};
        for (int what : wrongWhats) {
            c.due("16 what " + what, x.plan(1, 0, what), OUTSIDE);
            c.due("16 what ahead of STATE", new ThatchLane().plan(1, 0, what), OUTSIDE);
        }
        c.due("16 years 0", x.plan(0, 0, 0), OUTSIDE);
        c.due("16 years 5", x.plan(5, 0, 0), OUTSIDE);
        c.due("16 years MIN", x.plan(MIN, 0, 0), OUTSIDE);
        c.due("16 years MAX", x.plan(MAX, 0, 0), OUTSIDE);
        c.due("16 rain -1", x.plan(1, -1, 0), OUTSIDE);
        c.due("16 rain 21", x.plan(1, 21, 0), OUTSIDE);
        c.due("16 no lane", new ThatchLane().plan(1, 0, 13), STATE);
    }

    private static void twos() {
        ThatchLane x = Checks.laneOf("h90,h10,h80,h30,w20,w50");
        c.due("17 how much", x.twos(0), 4);
        int[] six = {2, 4, 0, 5, 1, 3};
        ThatchLane y = Checks.laneOf("h50,h50,h50,h50,h50");
        int[] five = {-1, 2, 1, 4, 3, -1};
        ThatchLane z = Checks.laneOf("h70,h20,h60");
        int[] three = {2, -1, 0, -1, -1, -1};
        for (int i = 0; i < 6; i++) {
            c.due("17 of six " + i, x.twos(10 + i), six[i]);
            c.due("17 of like ones the first " + i, y.twos(10 + i), five[i]);
            c.due("17 one is left " + i, z.twos(10 + i), three[i]);
        }
        c.due("17 none apart", y.twos(0), 0);
        c.due("17 one left counts nothing", z.twos(0), 1);
        z = Checks.laneOf("h10,h20,h30,h40");
        c.due("17 of like ones the first", z.twos(0), 2);
        c.due("17 0 with 1", z.twos(10), 1);
        // House 0 is left, though 0 with 1 is as near.
        z = Checks.laneOf("h10,h20,h30");
        c.due("17 NONE ahead of all", z.twos(10), NONE);
        c.due("17 the others go together", z.twos(11), 2);
        z = Checks.laneOf("h37");
        c.due("17 alone", z.twos(0), 0);
        c.due("17 alone", z.twos(10), NONE);
        z = Checks.laneOf("h90,t00");
        c.due("17 two", z.twos(0), 9);
        c.due("17 two", z.twos(10), 1);
        c.due("17 two", z.twos(11), 0);
        c.due("17 none such", z.twos(12), NONE);
        int[] wrongWhats = {-1, 1, 9, 16, MIN, MAX};
        for (int what : wrongWhats) {
            c.due("17 twos(" + what + ")", z.twos(what), OUTSIDE);
            c.due("17 ahead of STATE", new ThatchLane().twos(what), OUTSIDE);
        }
        c.due("17 no lane", new ThatchLane().twos(15), STATE);
    }

    private static void patch() {
        ThatchLane x = Checks.laneOf("h50,h30");
        c.due("18 none needed", x.patch(3, 30, 0), 0);
        c.due("18 none needed", x.patch(3, 30, 1), 0);
        c.due("18 one of two", x.patch(6, 2, 0), 1);
        c.due("18 one of two", x.patch(6, 2, 1), 1);
        c.due("18 both", x.patch(6, 4, 0), 0);
        c.due("18 both", x.patch(6, 4, 1), 4);
        c.due("18 no more than needed", x.patch(6, 30, 1), 4);
        // Dry by 13: 8 on the first, then 11 reaches the second: 8 more.
        c.due("18 in the lee", x.patch(13, 16, 0), 0);
        c.due("18 in the lee", x.patch(13, 16, 1), 16);
        c.due("18 one less", x.patch(13, 15, 0), 1);
        c.due("18 one less", x.patch(13, 15, 1), 8);
        c.due("18 nothing is put on", x.house(0, 1), 5);
        c.due("18 no bundles", x.patch(20, 0, 0), 2);
        c.due("18 no bundles", x.patch(20, 0, 1), 0);
        c.due("18 no rain", x.patch(0, 0, 0), 0);
        // It may pay to make a wet one shelter: 1 on the first keeps five others dry.
        x = Checks.laneOf("w90,w90,w90,w90,w90,w90");
        c.due("18 a wet shelter", x.patch(11, 1, 0), 1);
        c.due("18 a wet shelter", x.patch(11, 1, 1), 1);
        c.due("18 a dry one", x.patch(11, 2, 0), 0);
        c.due("18 a dry one", x.patch(11, 2, 1), 2);
        x = Checks.laneOf("h00");
        c.due("18 20 on a bald one", x.patch(20, 20, 0), 0);
        c.due("18 20 on a bald one", x.patch(20, 19, 0), 1);
        c.due("18 none, if it is of no use", x.patch(20, 19, 1), 0);
        patchRefusals(x);
    }

    private static void patchRefusals(ThatchLane x) {
        c.due("18 rain -1", x.patch(-1, 0, 0), OUTSIDE);
        c.due("18 rain 21", x.patch(21, 0, 0), OUTSIDE);
        c.due("18 bundles -1", x.patch(0, -1, 0), OUTSIDE);
        c.due("18 bundles 31", x.patch(0, 31, 0), OUTSIDE);
        c.due("18 what -1", x.patch(0, 0, -1), OUTSIDE);
        c.due("18 what 2", x.patch(0, 0, 2), OUTSIDE);
        c.due("18 MIN", x.patch(MIN, MIN, MIN), OUTSIDE);
        c.due("18 MAX", x.patch(MAX, MAX, MAX), OUTSIDE);
        c.due("18 no lane", new ThatchLane().patch(0, 0, 0), STATE);
        c.due("18 OUTSIDE ahead of STATE", new ThatchLane().patch(0, 0, 2), OUTSIDE);
    }

    private static void odds() {
        ThatchLane x = Checks.laneOf("h90,t40,w30,h02");
        c.due("19 always dry", x.odds(0, 7, 0), 1);
        c.due("19 always dry", x.odds(0, 7, 1), 1);
        // 10 in the first year: the rain on the toupee is 2 less, 3 reed are left: 6 of 10, then 6, then 5.
        c.due("19 a toupee", x.odds(1, 1, 0), 3);
        c.due("19 a toupee", x.odds(1, 1, 1), 5);
        c.due("19 two years", x.odds(1, 2, 0), 9);
        c.due("19 two years", x.odds(1, 2, 1), 25);
        c.due("19 three years", x.odds(1, 3, 0), 9);
        c.due("19 three years", x.odds(1, 3, 1), 50);
        c.due("19 7 years", x.odds(2, 7, 0), 2187);
        c.due("19 7 years", x.odds(2, 7, 1), 78125);
        c.due("19 a growing one", x.odds(3, 2, 0), 1);
        c.due("19 a growing one", x.odds(3, 2, 1), 5);
        c.due("19 nothing is done", x.count(5), 0);
        c.due("19 nothing is done", x.count(6), 0);
        x.comb(2);
        c.due("19 combed", x.odds(2, 1, 0), 7);
        c.due("19 combed", x.odds(2, 1, 1), 10);
        x = Checks.laneOf("o00");
        c.due("19 bald", x.odds(0, 7, 0), 1);
        c.due("19 bald", x.odds(0, 7, 1), 10000000);
        c.due("19 odds(-1, 1, 0)", x.odds(-1, 1, 0), UNKNOWN);
        c.due("19 odds(1, 1, 0)", x.odds(1, 1, 0), UNKNOWN);
        c.due("19 odds(0, 0, 0)", x.odds(0, 0, 0), OUTSIDE);
        c.due("19 odds(0, 8, 0)", x.odds(0, 8, 0), OUTSIDE);
        c.due("19 odds(0, 1, -1)", x.odds(0, 1, -1), OUTSIDE);
        c.due("19 odds(0, 1, 2)", x.odds(0, 1, 2), OUTSIDE);
        c.due("19 all wrong", x.odds(1, 8, 2), UNKNOWN);
    }

    private static void see() {
        ThatchLane x = Checks.laneOf("h50,w50");
        c.due("20 see(0, 1, 21)", x.see(0, 1, 21), OUTSIDE);
        c.due("20 see(0, 1, -1)", x.see(0, 1, -1), OUTSIDE);
        c.due("20 see(0, 0, 0)", x.see(0, 0, 0), OUTSIDE);
        c.due("20 see(0, 10, 0)", x.see(0, 10, 0), OUTSIDE);
        c.due("20 see(2, 1, 0)", x.see(2, 1, 0), UNKNOWN);
        c.due("20 see(-1, 1, 0)", x.see(-1, 1, 0), UNKNOWN);
        c.due("20 see(2, 0, 21)", x.see(2, 0, 21), UNKNOWN);
        c.due("20 nothing yet", x.count(7), 0);
        c.due("20 see(0, 1, 0)", x.see(0, 1, 0), 1);
        c.due("20 see(0, 9, 20)", x.see(0, 9, 20), 2);
        c.due("20 the same again", x.see(0, 9, 20), 3);
        c.due("20 see(1, 1, 5)", x.see(1, 1, 5), 4);
        c.due("20 see(1, 2, 5)", x.see(1, 2, 5), 5);
        c.due("20 see(1, 3, 5)", x.see(1, 3, 5), 6);
        c.due("20 6 at most", x.see(1, 4, 5), FULL);
        c.due("20 OUTSIDE ahead of FULL", x.see(1, 10, 5), OUTSIDE);
        c.due("20 UNKNOWN ahead of FULL", x.see(2, 4, 5), UNKNOWN);
        c.due("20 count(7)", x.count(7), 6);
    }

    private static void worries() {
        ThatchLane x = Checks.laneOf("h50,w50,o50");
        c.due("6 nothing seen", x.house(0, 5), 1023);
        x.see(0, 1, 5);
        c.due("6 worry 3, 4, 5", x.house(0, 5), 56);
        c.due("6 of the others nothing is seen", x.house(1, 5), 1023);
        c.due("6 of the others nothing is seen", x.house(2, 5), 1023);
        x.see(1, 9, 5);
        c.due("6 a wig has any", x.house(1, 5), 1023);
        x.see(1, 8, 4);
        c.due("6 a wig has none", x.house(1, 5), 0);
        // Whenever it was told, and whatever was done since: it is asked from now on.
        x.year();
        c.due("6 6 now: worry 6, 7, 8", x.house(0, 5), 448);
        x.comb(0);
        c.due("6 4, and 3 more: worry 9", x.house(0, 5), 512);
        x.move(0, 3, 0);
        c.due("6 a young one: none", x.house(0, 5), 0);
        x.move(0, 1, 0);
        c.due("6 a wig that comes to 7: none", x.house(0, 5), 0);
        x.year();
        c.due("6 a wig of 7: none", x.house(0, 5), 0);
        x.comb(0);
        x.year();
        x.comb(0);
        c.due("6 forgotten", x.forget(), 3);
        c.due("6 forgotten", x.house(0, 5), 1023);
        // 0 at least: an old one of 5 is bald behind 2 years with worry 6 or more.
        x = Checks.laneOf("o50");
        x.see(0, 2, 0);
        c.due("6 bald", x.house(0, 5), 960);
        x.see(0, 1, 1);
        c.due("6 both", x.house(0, 5), 512);
    }

    private static void look() {
        ThatchLane x = Checks.laneOf("h50,w50,o00,o90");
        // Thirds: 3, 3, 3, 1 worries each: behind any year 3 are left, so the first.
        c.due("6 look", x.house(0, 6), 1);
        c.due("6 a wig: the least", x.house(1, 6), 1);
        c.due("6 a bald one: the least", x.house(2, 6), 1);
        // h0: behind 1 year: 1, 0, 0, 0, so 7 alike; it never gets better.
        x = Checks.laneOf("h00,y10,y00");
        c.due("6 h00", x.house(0, 6), 1);
        // y1 goes 2, 1, 0, -1: 3, 2, 1, 0 behind the first year.
        c.due("6 y10", x.house(1, 6), 1);
        // y0: 2, 1, 0, 0 behind the first year: 4 alike, and so for ever.
        c.due("6 y00", x.house(2, 6), 1);
        // Full ones: y of 20 stays there with worry 0 to 8 and goes down with 9 alone, o of 20 goes apart at once.
        x = Checks.laneOf("y90");
        for (int i = 0; i < 6; i++) {
            x.year();
        }
        c.due("6 a full young one", x.house(0, 6), 1);
        x.comb(0);
        // 18, and 3 more, and 2, 1, 0, -1: 20 with all; then 20, 20, 20, 19: 9 alike; 3, 3, 3 are like each other.
        c.due("6 a combed one: not the first", x.house(0, 6), 2);
        x.see(0, 1, 0);
        c.due("6 none are left", x.house(0, 6), NONE);
        x.forget();
        x.see(0, 2, 19);
        c.due("6 one is left", x.house(0, 5), 512);
        c.due("6 one is left", x.house(0, 6), 1);
    }

    private static void forget() {
        ThatchLane x = Checks.laneOf("h50");
        c.due("21 forget()", x.forget(), 0);
        x.see(0, 1, 5);
        x.see(0, 2, 5);
        c.due("21 forget()", x.forget(), 2);
        c.due("21 forget() again", x.forget(), 0);
        c.due("21 count(7)", x.count(7), 0);
        c.due("21 all worries", x.house(0, 5), 1023);
        c.due("21 from the first again", x.see(0, 1, 5), 1);
    }

    private static void ages() {
        // Seed 0: 12345, 1406932606, 654583775: draws of 0, 21468, 9988; then 1449466924, 229283573, 1109335178:
        // 22117, 3498, 16927; then 1051550459, 1293799192, 794471793: 16045, 19741, 12122.
        ThatchLane x = Checks.laneOf("h50");
        c.due("22 seed", x.ages(1, 0, 2), 654583775);
        c.due("22 seed of two", x.ages(2, 0, 2), 1109335178);
        c.due("22 seed of three", x.ages(3, 0, 2), 794471793);
        // Cheered (21468 is even); 6 reed; rain of 9988 % 16 = 4: none.
        c.due("22 one time", x.ages(1, 0, 0), 0);
        c.due("22 one time", x.ages(1, 0, 1), 6);
        // Cheered; 7 reed; rain of 16927 % 16 = 15: it is wet, and worries 1.
        c.due("22 two times", x.ages(2, 0, 0), 1);
        c.due("22 two times", x.ages(2, 0, 1), 7);
        // 19741 is odd: it is combed: 5; then 9; rain of 12122 % 16 = 10.
        c.due("22 three times", x.ages(3, 0, 0), 2);
        c.due("22 three times", x.ages(3, 0, 1), 9);
        c.due("22 nothing is done", x.count(1), 5);
        c.due("22 nothing is done", x.count(2), 0);
        c.due("22 nothing is done", x.count(5), 0);
        c.due("22 nothing is done", x.count(6), 0);
        // Two houses: 0 % 2 = 0, 22117 % 2 = 1, 16045 % 2 = 1. House 1, a wig of 2, is combed in the third: 3.
        x = Checks.laneOf("w70,w20");
        c.due("22 of two houses", x.ages(3, 0, 1), 10);
        c.due("22 of two houses, wet", x.ages(3, 0, 0), 1 + 2 + 2);
        // A wig of 1 has too little, one that is combed already stays so: no more than once 3.
        x = Checks.laneOf("w10");
        c.due("22 too little", x.ages(3, 0, 1), 1);
        x = Checks.laneOf("w90");
        x.comb(0);
        c.due("22 combed already, then again", x.ages(3, 0, 1), 11);
        c.due("22 a seed", x.ages(1, MAX, 2), 646343466);
        c.holds("22 60 times", x.ages(60, 1, 0) >= 0);
        c.due("22 times 0", x.ages(0, 0, 0), OUTSIDE);
        c.due("22 times 61", x.ages(61, 0, 0), OUTSIDE);
        c.due("22 seed -1", x.ages(1, -1, 0), OUTSIDE);
        c.due("22 seed MIN", x.ages(1, MIN, 0), OUTSIDE);
        c.due("22 what -1", x.ages(1, 0, -1), OUTSIDE);
        c.due("22 what 3", x.ages(1, 0, 3), OUTSIDE);
        c.due("22 no lane", new ThatchLane().ages(1, 0, 0), STATE);
        c.due("22 OUTSIDE ahead of STATE", new ThatchLane().ages(1, 0, 3), OUTSIDE);
    }

    private static void image() {
        ThatchLane x = new ThatchLane();
        c.due("23 no lane", x.image(), STATE);
        c.due("23 none kept", x.restore(), STATE);
        x = Checks.laneOf("h50");
        c.due("23 image()", x.image(), 0);
        x.year();
        x.year();
        c.due("23 image()", x.image(), 2);
        c.due("23 the latest", x.restore(), 2);
        c.due("23 it keeps nothing else", x.count(9), 1);
    }

    private static void restore() {
        ThatchLane x = Checks.laneOf("h50,w93");
        c.due("24 none was kept", x.restore(), STATE);
        x.year();
        x.comb(1);
        x.rain(9);
        x.see(0, 1, 7);
        long then = x.digest();
        c.due("24 image()", x.image(), 1);
        x.year();
        x.rain(20);
        x.cheer(1);
        x.comb(0);
        x.move(0, 3, 9);
        x.see(1, 1, 7);
        c.due("24 restore()", x.restore(), 1);
        c.due("24 kind", x.house(0, 0), 0);
        c.due("24 reed", x.house(0, 1), 6);
        c.due("24 worry", x.house(1, 2), 4);
        c.due("24 combed", x.house(1, 3), 1);
        c.due("24 not combed", x.house(0, 3), 0);
        c.due("24 years", x.count(5), 1);
        c.due("24 wet", x.count(6), 2);
        c.due("24 seen", x.count(7), 1);
        c.due("24 all", x.digest(), then);
        x.forget();
        x.year();
        c.due("24 again", x.restore(), 1);
        c.due("24 all again", x.digest(), then);
        Checks.type(x, "h5");
        c.due("24 the page is not kept", x.restore(), 1);
        c.due("24 the page is not kept", x.count(8), 2);
        Checks.type(x, "0,w93");
        c.due("24 the same text", x.lane(), 2);
        c.due("24 a lane was read since", x.restore(), STATE);
        c.due("24 nothing came back", x.count(5), 0);
        c.due("24 another image", x.image(), 0);
        c.due("24 another image", x.restore(), 0);
        c.due("24 lanes are not kept", x.count(9), 2);
    }

    private static void count() {
        ThatchLane x = Checks.laneOf("h93,w92,y91");
        x.year();
        x.comb(1);
        x.rain(20);
        x.see(0, 1, 1);
        x.see(0, 2, 1);
        Checks.type(x, "h0000");
        // 9, 7, 11; 4, 3, 2.
        int[] counts = {3, 27, 9, 1, 1, 1, 3, 2, 5, 1};
        for (int what = 0; what <= 9; what++) {
            c.due("25 count(" + what + ")", x.count(what), counts[what]);
        }
        x.move(0, 0, 0);
        x.year();
        c.due("25 10 reed, or more", x.count(4), 3);
        c.due("25 none combed", x.count(3), 0);
        c.due("25 count(-1)", x.count(-1), OUTSIDE);
        c.due("25 count(10)", x.count(10), OUTSIDE);
        c.due("25 count(MIN)", x.count(MIN), OUTSIDE);
        c.due("25 count(MAX)", x.count(MAX), OUTSIDE);
        c.due("25 OUTSIDE without a lane", new ThatchLane().count(10), OUTSIDE);
    }

    private static long mixed(long h, long... numbers) {
        for (long number : numbers) {
            h = 31 * h + number;
        }
        return h;
    }

    private static void digest() {
        ThatchLane x = new ThatchLane();
        c.due("26 of none", x.digest(), mixed(1259, 0, 0, 0, 0, 0, 0, 0, 0, 0, 0));
        Checks.type(x, "~ h");
        c.due("26 of a page", x.digest(), mixed(1259, 126, 32, 104, 0, 0, 0, 0, 0, 0, 0, 0, 3, 0));
        x.blank();
        Checks.type(x, "h53");
        x.lane();
        Checks.type(x, "!");
        // 5, then 5 of 10 dry (0 to 5: 6 of 10) in each of 4 years: 81 of 625.
        long h = mixed(1259, 0, 5, 3, 0, 5, 1023, 1, 12, 0, 81, 625);
        h = mixed(h, 1, 1, 7, 0, 0, 0, -1, -1, -1, -1, -1, -1, 0, 7, '!', 1, 5, 3, 0, 0, 0, 0, 0, 1, 1);
        c.due("26 of one house", x.digest(), h);
        c.due("26 it changes nothing", x.digest(), h);
        x.year();
        c.holds("26 a year is told", x.digest() != h);
    }

    /** A refusal changes nothing, and the first as told comes first. */
    private static void order() {
        ThatchLane x = Checks.laneOf("h50,w01");
        long then = x.digest();
        x.house(2, 0);
        x.house(0, 7);
        x.wet(21);
        x.rain(21);
        x.rain(-1);
        x.cheer(2);
        x.comb(2);
        x.comb(1);
        x.move(0, 5, 0);
        x.move(0, 1, 10);
        x.move(2, 1, 1);
        x.see(0, 0, 0);
        x.see(0, 1, 21);
        x.see(2, 1, 1);
        x.lane();
        x.letter(31);
        x.restore();
        x.ages(0, 0, 0);
        x.plan(0, 0, 0);
        c.due("refusals change nothing", x.digest(), then);
        x.dry(0, 3);
        x.plan(4, 9, 0);
        x.twos(0);
        x.patch(12, 30, 0);
        x.odds(0, 7, 0);
        x.ages(60, 5, 0);
        x.image();
        c.due("asking changes nothing", x.digest(), then);
    }
}
