/** The lane, promises 1 to 5: each sentence that names a bound, at the bound and one beyond it. */
public final class LaneBoundsTest {
    private static final int NONE = Scenes.NONE, UNKNOWN = Scenes.UNKNOWN, OUTSIDE = Scenes.OUTSIDE;
    private static final int STATE = Scenes.STATE, FULL = Scenes.FULL, MIN = Scenes.MIN, MAX = Scenes.MAX;
    private static final String SIX = "h00,w19,o28,y37,t46,h99";

    private static final Checks c = new Checks("LaneBoundsTest");

    public static void main(String[] args) {
        noLane();
        nothingElse();
        letterCodes();
        letterNumbers();
        letterRoomAgain();
        blankOf();
        blankLeavesTheRest();
        faultOfNoLetters();
        faultAtEachPlace();
        faultBeyondSixHouses();
        faultBesideEachSign();
        laneOfEachLength();
        laneOfSevenHouses();
        laneDigits();
        laneKinds();
        anotherOneIsGone();
        nothingIsLeftBeyondTheLast();
        sameTextAgain();
        c.end();
    }

    // "No LANE."
    private static void noLane() {
        int[] houses = {MIN, -1, 0, 1, 5, 6, MAX};
        for (int house : houses) {
            ThatchLane x = new ThatchLane();
            for (int what = 0; what <= 6; what++) {
                c.due("1 house(" + house + ", " + what + ")", x.house(house, what), UNKNOWN);
            }
            c.due("1 as(" + house + ")", x.as(house, 0), UNKNOWN);
            c.due("1 reaches(" + house + ")", x.reaches(house, 0), UNKNOWN);
            c.due("1 cheer(" + house + ")", x.cheer(house), UNKNOWN);
            c.due("1 comb(" + house + ")", x.comb(house), UNKNOWN);
            c.due("1 move(" + house + ")", x.move(house, 0, 0), UNKNOWN);
            c.due("1 dry(" + house + ")", x.dry(house, 0), UNKNOWN);
            c.due("1 odds(" + house + ")", x.odds(house, 1, 0), UNKNOWN);
            c.due("1 see(" + house + ")", x.see(house, 1, 0), UNKNOWN);
        }
        ThatchLane x = new ThatchLane();
        c.due("1 wet", x.wet(0), STATE);
        c.due("1 year", x.year(), STATE);
        c.due("1 rain", x.rain(0), STATE);
        c.due("1 plan", x.plan(1, 0, 0), STATE);
        c.due("1 twos", x.twos(0), STATE);
        c.due("1 patch", x.patch(0, 0, 0), STATE);
        c.due("1 ages", x.ages(1, 0, 0), STATE);
        c.due("1 image", x.image(), STATE);
    }

    private static void nothingElse() {
        ThatchLane x = new ThatchLane();
        for (int what = 0; what <= 9; what++) {
            c.due("1 count(" + what + ")", x.count(what), 0);
        }
        c.due("1 fault", x.fault(), 0);
        c.due("1 blank", x.blank(), 0);
        c.due("1 lane", x.lane(), STATE);
        c.due("1 forget", x.forget(), 0);
        c.due("1 restore", x.restore(), STATE);
        ThatchLane y = new ThatchLane();
        Checks.type(y, "h00");
        c.due("1 two objects have two pages", x.count(8), 0);
        y.lane();
        c.due("1 two objects have two lanes", x.count(0), 0);
    }

    // "OUTSIDE: code (32 to 126)"
    private static void letterCodes() {
        // The last ones come to 'h' or ' ' if they are cut to a byte or to a char.
        int[] wrong = {MIN, -104, -32, -1, 0, 31, 127, 128, 255, 256 + 32, 256 + 104, 65536 + 32, 65536 + 104, MAX};
        ThatchLane x = new ThatchLane();
        for (int code : wrong) {
            c.due("2 letter(" + code + ")", x.letter(code), OUTSIDE);
            c.due("2 letter(" + code + ") is not on the page", x.count(8), 0);
        }
        for (int code = 32; code <= 126; code++) {
            x = new ThatchLane();
            c.due("2 letter(" + code + ")", x.letter(code), 1);
            // 31 times, eleven times: the code, then nine 0s of count(), but for the letter, and the reading.
            long h = 31L * 1259 + code;
            for (int what = 0; what <= 9; what++) {
                h = 31 * h + (what == 8 ? 1 : 0);
            }
            c.due("2 it is the letter of its code " + code, x.digest(), h);
        }
    }

    // "how many THE PAGE has. FULL: above 26."
    private static void letterNumbers() {
        ThatchLane x = new ThatchLane();
        for (int many = 1; many <= 26; many++) {
            c.due("2 letter no. " + many, x.letter(32 + many), many);
        }
        long then = x.digest();
        c.due("2 letter no. 27", x.letter('h'), FULL);
        c.due("2 letter no. 27, again", x.letter(126), FULL);
        c.due("2 letter no. 27, again", x.letter(32), FULL);
        c.due("2 OUTSIDE ahead of FULL, below", x.letter(31), OUTSIDE);
        c.due("2 OUTSIDE ahead of FULL, above", x.letter(127), OUTSIDE);
        c.due("2 the page stays", x.digest(), then);
    }

    private static void letterRoomAgain() {
        ThatchLane x = Scenes.noneWithFullPage();
        c.due("2 full", x.letter('h'), FULL);
        x.blank();
        for (int many = 1; many <= 26; many++) {
            c.due("2 behind blank(), letter no. " + many, x.letter('h'), many);
        }
        c.due("2 behind blank(), letter no. 27", x.letter('h'), FULL);
        x = Checks.laneOf(SIX);
        for (int many = 1; many <= 26; many++) {
            c.due("2 behind lane(), letter no. " + many, x.letter('h'), many);
        }
        c.due("2 behind lane(), letter no. 27", x.letter('h'), FULL);
    }

    // "THE PAGE is empty: how many letters it had."
    private static void blankOf() {
        for (int many = 0; many <= 26; many++) {
            ThatchLane x = new ThatchLane();
            for (int i = 0; i < many; i++) {
                x.letter("h00,".charAt(i % 4));
            }
            c.due("3 blank() of " + many, x.blank(), many);
            c.due("3 blank() of " + many + ", no letters", x.count(8), 0);
            c.due("3 blank() of " + many + ", no fault", x.fault(), 0);
            c.due("3 blank() of " + many + ", no lane", x.lane(), STATE);
            c.due("3 blank() of " + many + ", again", x.blank(), 0);
            c.due("3 behind blank() of " + many + ", a letter", x.letter('w'), 1);
            c.due("3 nothing old stands behind it", x.fault(), 1);
        }
    }

    private static void blankLeavesTheRest() {
        ThatchLane x = Scenes.busy();
        ThatchLane y = Scenes.busy();
        c.due("3 blank()", x.blank(), 2);
        Checks.type(x, "w1");
        c.holds("3 the page alone is emptied", Scenes.portrait(x).equals(Scenes.portrait(y)));
        c.due("3 the image stays", x.restore(), y.restore());
        c.holds("3 the image stays as it is", Scenes.portrait(x).equals(Scenes.portrait(y)));
    }

    private static int faultOf(String text) {
        ThatchLane x = new ThatchLane();
        Checks.type(x, text);
        return x.fault();
    }

    // "how many letters it has, if there is none"
    private static void faultOfNoLetters() {
        c.due("4 of no letters", faultOf(""), 0);
        ThatchLane x = Checks.laneOf(SIX);
        c.due("4 of no letters, behind lane()", x.fault(), 0);
    }

    // "The place (from 0) of the first letter of THE PAGE that no LANE has there, behind those ahead of it"
    private static void faultAtEachPlace() {
        for (int place = 0; place <= SIX.length(); place++) {
            String right = SIX.substring(0, place);
            c.due("4 none in '" + right + "'", faultOf(right), place);
            c.due("4 at " + place + ", the last", faultOf(right + "."), place);
            c.due("4 at " + place + ", more behind it", faultOf(right + ".h0"), place);
            c.due("4 at " + place + ", another behind it", faultOf(right + ".."), place);
        }
        ThatchLane x = new ThatchLane();
        Checks.type(x, "h0.");
        c.due("4 fault()", x.fault(), 2);
        c.due("4 the page stays", x.count(8), 3);
        c.due("4 fault() again", x.fault(), 2);
    }

    // "one to six HOUSES": behind the sixth no letter is right.
    private static void faultBeyondSixHouses() {
        for (int code = 32; code <= 126; code++) {
            c.due("4 behind six houses, " + code, faultOf(SIX + (char) code), 23);
        }
        c.due("4 behind six houses, 25 letters", faultOf(SIX + ",h"), 23);
        c.due("4 behind six houses, 26 letters", faultOf(SIX + ",h0"), 23);
        c.due("4 behind five houses there may be one", faultOf(SIX.substring(0, 20)), 20);
        c.due("4 26 letters, wrong in the first", faultOf("H" + SIX.substring(1) + ",h0"), 0);
        c.due("4 26 letters, wrong in the 23rd", faultOf(SIX.substring(0, 22) + ",,h0"), 22);
    }

    // "a letter, the KIND, and two digits, REED (0 to 9) and WORRY (0 to 9)", with ',' between
    private static void faultBesideEachSign() {
        for (int house = 0; house < 6; house++) {
            String ahead = SIX.substring(0, 4 * house);
            int at = 4 * house;
            for (int code = 32; code <= 126; code++) {
                char sign = (char) code;
                boolean kind = "hwoyt".indexOf(sign) >= 0;
                boolean digit = "0123456789".indexOf(sign) >= 0;
                boolean comma = sign == ',' && house < 5;
                c.due("4 kind " + sign, faultOf(ahead + sign), kind ? at + 1 : at);
                c.due("4 reed " + sign, faultOf(ahead + "y" + sign), digit ? at + 2 : at + 1);
                c.due("4 worry " + sign, faultOf(ahead + "y9" + sign), digit ? at + 3 : at + 2);
                c.due("4 behind " + sign, faultOf(ahead + "y90" + sign), comma ? at + 4 : at + 3);
            }
        }
    }

    // "how many HOUSES; THE PAGE is empty then. STATE: it is none."
    private static void laneOfEachLength() {
        String endless = SIX + ",w11,o22";
        for (int many = 0; many <= 26; many++) {
            ThatchLane x = new ThatchLane();
            Checks.type(x, endless.substring(0, many));
            boolean right = many % 4 == 3 && many <= 23;
            c.due("5 lane() of " + many + " letters", x.lane(), right ? (many + 1) / 4 : STATE);
            c.due("5 letters behind it, of " + many, x.count(8), right ? 0 : many);
            c.due("5 houses, of " + many + " letters", x.count(0), right ? (many + 1) / 4 : 0);
            c.due("5 readings, of " + many + " letters", x.count(9), right ? 1 : 0);
            c.due("5 lane() again, of " + many + " letters", x.lane(), STATE);
        }
    }

    // "one to six HOUSES": a seventh has no room on THE PAGE, and what has of it is none.
    private static void laneOfSevenHouses() {
        String[] none = {"", ",", "h00,", SIX + ",", SIX + ",h", SIX + ",h0", SIX + "   ", "," + SIX, SIX + "9"};
        for (String text : none) {
            ThatchLane x = new ThatchLane();
            Checks.type(x, text);
            c.due("5 lane() of '" + text + "'", x.lane(), STATE);
            c.due("5 the page of '" + text + "' stays", x.blank(), text.length());
        }
    }

    // "REED (0 to 9) and WORRY (0 to 9)"
    private static void laneDigits() {
        for (int house = 0; house < 6; house++) {
            String ahead = SIX.substring(0, 4 * house);
            for (char sign = '/'; sign <= ':'; sign++) {
                boolean digit = sign != '/' && sign != ':';
                ThatchLane x = new ThatchLane();
                Checks.type(x, ahead + "t" + sign + "5");
                c.due("5 reed " + sign, x.lane(), digit ? house + 1 : STATE);
                c.due("5 reed " + sign, x.house(house, 1), digit ? sign - '0' : UNKNOWN);
                x = new ThatchLane();
                Checks.type(x, ahead + "t5" + sign);
                c.due("5 worry " + sign, x.lane(), digit ? house + 1 : STATE);
                c.due("5 worry " + sign, x.house(house, 2), digit ? sign - '0' : UNKNOWN);
            }
        }
    }

    // "KINDS are told by the letter"
    private static void laneKinds() {
        for (int code = 32; code <= 126; code++) {
            int kind = "hwoyt".indexOf(code);
            ThatchLane x = new ThatchLane();
            Checks.type(x, "h00," + (char) code + "12");
            c.due("5 kind " + (char) code, x.lane(), kind >= 0 ? 2 : STATE);
            c.due("5 kind " + (char) code, x.house(1, 0), kind >= 0 ? kind : UNKNOWN);
        }
    }

    // "(another one is gone, with all that was)"; "then it is YEAR 0, none is COMBED"
    private static void anotherOneIsGone() {
        ThatchLane x = Scenes.busy();
        x.blank();
        Checks.type(x, "o47,t21");
        c.due("5 two houses behind six", x.lane(), 2);
        for (int house = 2; house <= 6; house++) {
            c.due("5 house " + house + " is gone", x.house(house, 0), UNKNOWN);
        }
        // What was read, a reading more, and nothing besides.
        int[] counts = {2, 6, 8, 0, 0, 0, 0, 0, 0, 2};
        for (int what = 0; what <= 9; what++) {
            c.due("5 count(" + what + ") of another", x.count(what), counts[what]);
        }
        c.due("5 nothing of house 0 is seen", x.house(0, 5), 1023);
        c.due("5 the image is gone", x.restore(), STATE);
        c.due("5 YEAR 0: the next is odd", x.house(1, 4), 1);
        Checks.type(x, SIX);
        c.due("5 six houses behind two", x.lane(), 6);
        c.due("5 the fourth was combed once, and is not", x.house(3, 3), 0);
        c.due("5 the fourth is as read", x.house(3, 1), 3);
        c.due("5 the sixth is as read", x.house(5, 2), 9);
        c.due("5 readings", x.count(9), 3);
        c.due("5 no kind of a seventh", x.as(6, 0), UNKNOWN);
    }

    /** Six that had most of all are read over by fewer: these are like those of a new object. */
    private static void nothingIsLeftBeyondTheLast() {
        String[] full = {"y:20:9", "w:20:9", "h:20:9", "t:20:9", "w:20:9", "w:20:9"};
        for (int many = 1; many <= 6; many++) {
            ThatchLane x = Scenes.inYear(7, full);
            for (int house = 0; house <= 5; house++) {
                x.comb(house);
                x.see(house, 9, 20);
            }
            x.plan(4, 20, 0);
            x.twos(0);
            x.patch(20, 30, 0);
            String text = SIX.substring(0, 4 * many - 1);
            Checks.type(x, text);
            x.lane();
            ThatchLane y = Checks.laneOf(text);
            c.due("5 behind six, as if new: digest() but for one reading more", x.digest(), y.digest() + 1);
            for (int step = 0; step < 4; step++) {
                sameCounts(x, y);
                sameAnswers(x, y);
                c.due("5 year()", x.year(), y.year());
                c.due("5 rain(9)", x.rain(9), y.rain(9));
            }
        }
    }

    private static void sameCounts(ThatchLane x, ThatchLane y) {
        for (int what = 0; what <= 8; what++) {
            c.due("5 count(" + what + ")", x.count(what), y.count(what));
        }
        for (int house = 0; house <= 6; house++) {
            for (int what = 0; what <= 6; what++) {
                c.due("5 house(" + house + ", " + what + ")", x.house(house, what), y.house(house, what));
            }
        }
    }

    private static void sameAnswers(ThatchLane x, ThatchLane y) {
        c.due("5 wet(20)", x.wet(20), y.wet(20));
        c.due("5 wet(9)", x.wet(9), y.wet(9));
        for (int what = 10; what <= 15; what++) {
            c.due("5 twos(" + what + ")", x.twos(what), y.twos(what));
        }
        c.due("5 twos(0)", x.twos(0), y.twos(0));
        for (int what = 0; what <= 1; what++) {
            c.due("5 plan(4, 9, " + what + ")", x.plan(4, 9, what), y.plan(4, 9, what));
            c.due("5 patch(15, 20, " + what + ")", x.patch(15, 20, what), y.patch(15, 20, what));
            c.due("5 ages(60, 3, " + what + ")", x.ages(60, 3, what), y.ages(60, 3, what));
        }
    }

    private static void sameTextAgain() {
        ThatchLane x = Checks.laneOf("w90");
        x.comb(0);
        x.see(0, 1, 1);
        x.rain(20);
        x.image();
        Checks.type(x, "w90");
        c.due("5 the same text again", x.lane(), 1);
        int[] told = {1, 9, 0, 0, 9, 1023, 1};
        for (int what = 0; what <= 6; what++) {
            c.due("5 house(0, " + what + ") of the same text", x.house(0, what), told[what]);
        }
        c.due("5 the image is gone with the same text", x.restore(), STATE);
        c.due("5 how often any was WET is gone", x.count(6), 0);
        c.due("5 nobody goes with a house that is alone", x.twos(10), NONE);
    }
}
