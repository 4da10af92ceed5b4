/** What is told of all, promises 23 to 26: each sentence that names a bound, at the bound and one beyond it. */
public final class ToldBoundsTest {
    private static final int OUTSIDE = Scenes.OUTSIDE, STATE = Scenes.STATE, MIN = Scenes.MIN, MAX = Scenes.MAX;

    private static final Checks c = new Checks("ToldBoundsTest");

    public static void main(String[] args) {
        imageOfNoLane();
        imageTheLatest();
        imageKeepsEach();
        imageKeepsSeen();
        restoreNoneWasKept();
        restoreALaneWasReadSince();
        restoreAgainAndAgain();
        restoreLeavesTheRest();
        countNumbers();
        countOfNone();
        countTenReed();
        countMost();
        countReadings();
        digestOfEach();
        digestOfThePage();
        digestWraps();
        c.end();
    }

    // "how many YEARS there were. STATE: no LANE."
    private static void imageOfNoLane() {
        ThatchLane x = new ThatchLane();
        c.due("23 no lane", x.image(), STATE);
        c.due("23 none was kept by that", x.restore(), STATE);
        Checks.type(x, "h0");
        c.due("23 a page is no lane", x.image(), STATE);
        x.lane();
        c.due("23 what is no lane is none yet", x.image(), STATE);
        Checks.type(x, "0");
        x.lane();
        c.due("23 a lane, in year 0", x.image(), 0);
        for (int year = 1; year <= 9; year++) {
            x.year();
            c.due("23 in year " + year, x.image(), year);
        }
    }

    // "An IMAGE is kept (one; the latest)"
    private static void imageTheLatest() {
        ThatchLane x = Checks.laneOf("h00");
        x.image();
        x.year();
        x.image();
        x.year();
        c.due("23 the latest", x.restore(), 1);
        c.due("23 its reed", x.house(0, 1), 1);
        c.due("23 not the one ahead of it", x.restore(), 1);
        x.year();
        x.year();
        c.due("23 another one", x.image(), 3);
        c.due("23 the latest again", x.restore(), 3);
        c.due("23 the latest again, its reed", x.house(0, 1), 3);
        // An earlier time may be the latest image, too.
        x = Checks.laneOf("h00");
        x.image();
        x.year();
        x.restore();
        c.due("23 year 0 again", x.image(), 0);
        x.year();
        c.due("23 as it was kept", x.restore(), 0);
    }

    // "An IMAGE keeps KINDS, REED, WORRY, what is COMBED, YEARS, how often any was WET, SEEN."
    private static void imageKeepsEach() {
        ThatchLane x = Scenes.busy();
        ThatchLane y = Scenes.busy();
        x.image();
        for (int house = 0; house <= 5; house++) {
            x.move(house, (house + 2) % 5, 9);
            x.comb(house);
        }
        x.year();
        x.rain(20);
        x.forget();
        x.see(5, 9, 20);
        x.see(4, 9, 20);
        x.see(3, 9, 20);
        c.due("24 restore()", x.restore(), 2);
        for (int house = 0; house <= 5; house++) {
            for (int what = 0; what <= 6; what++) {
                c.due("24 house(" + house + ", " + what + ")", x.house(house, what), y.house(house, what));
            }
        }
        for (int what = 0; what <= 9; what++) {
            c.due("24 count(" + what + ")", x.count(what), y.count(what));
        }
        c.due("24 all", x.digest(), y.digest());
        // What is kept is not what goes on: it stays as it was, whatever is done behind restore().
        x.year();
        x.cheer(0);
        x.see(5, 9, 20);
        c.due("24 restore() again", x.restore(), 2);
        c.due("24 all again", x.digest(), y.digest());
    }

    // "SEEN": of which house, behind how many years, how much.
    private static void imageKeepsSeen() {
        ThatchLane x = Checks.laneOf("y00,y00");
        x.see(0, 3, 6);
        x.see(1, 9, 9);
        x.image();
        x.forget();
        x.see(1, 1, 2);
        x.see(0, 5, 0);
        x.see(1, 2, 4);
        c.due("24 restore()", x.restore(), 0);
        c.due("24 2 were seen", x.count(7), 2);
        c.due("24 of the first, 2 a year for 3", x.house(0, 5), 7);
        c.due("24 of the second, 1 a year for 9", x.house(1, 5), 56);
        x.forget();
        x.image();
        x.see(0, 3, 6);
        x.restore();
        c.due("24 nothing was seen", x.count(7), 0);
        c.due("24 so all may be", x.house(0, 5), 1023);
        for (int sight = 1; sight <= 6; sight++) {
            x.see(sight % 2, sight, sight);
        }
        int first = x.house(0, 5);
        int second = x.house(1, 5);
        x.image();
        x.forget();
        x.restore();
        c.due("24 6 were seen", x.count(7), 6);
        c.due("24 6 were seen: full", x.see(0, 1, 1), Scenes.FULL);
        c.due("24 6 were seen, of the first", x.house(0, 5), first);
        c.due("24 6 were seen, of the second", x.house(1, 5), second);
    }

    // "STATE: none was kept"
    private static void restoreNoneWasKept() {
        ThatchLane x = new ThatchLane();
        c.due("24 no lane", x.restore(), STATE);
        x = Checks.laneOf("h93");
        x.year();
        c.due("24 none was kept", x.restore(), STATE);
        c.due("24 it goes on as it was", x.count(5), 1);
        c.due("24 as it was", x.house(0, 1), 9);
        x.image();
        c.due("24 one was kept", x.restore(), 1);
    }

    // "or a LANE was read since (of the same text, too)"
    private static void restoreALaneWasReadSince() {
        for (String text : new String[] {"h93", "h93,w11", "t00"}) {
            ThatchLane x = Checks.laneOf("h93");
            x.image();
            Checks.type(x, text);
            c.due("24 while it is on the page", x.restore(), 0);
            x.lane();
            c.due("24 " + text + " was read since", x.restore(), STATE);
            c.due("24 " + text + " stays", x.count(0), (text.length() + 1) / 4);
            x.year();
            c.due("24 another image", x.image(), 1);
            c.due("24 of another", x.restore(), 1);
        }
        ThatchLane x = Checks.laneOf("h93");
        x.image();
        c.due("24 none is read from an empty page", x.lane(), STATE);
        c.due("24 so the image stays", x.restore(), 0);
        Checks.type(x, "h93,");
        c.due("24 none is read from this", x.lane(), STATE);
        c.due("24 so it stays", x.restore(), 0);
    }

    private static void restoreAgainAndAgain() {
        ThatchLane x = Checks.laneOf("w00");
        x.year();
        x.image();
        for (int time = 1; time <= 50; time++) {
            x.rain(1);
            x.year();
            c.due("24 time " + time, x.restore(), 1);
            c.due("24 time " + time + ", wet", x.count(6), 0);
        }
    }

    /** Neither THE PAGE nor how often a LANE was read is kept. */
    private static void restoreLeavesTheRest() {
        ThatchLane x = Scenes.busy();
        x.blank();
        Checks.type(x, "!");
        c.due("24 restore()", x.restore(), 1);
        c.due("24 the page is what it was", x.count(8), 1);
        c.due("24 its letter too", x.fault(), 0);
        c.due("24 readings", x.count(9), 1);
        Checks.type(x, "w1");
        x.image();
        x.blank();
        c.due("24 restore()", x.restore(), 1);
        c.due("24 the page stays empty", x.count(8), 0);
    }

    // "0 HOUSES .. 9 how often a LANE was read. OUTSIDE."
    private static void countNumbers() {
        ThatchLane[] all = {Scenes.none(), Scenes.noneWithFullPage(), Scenes.plain(), Scenes.busy()};
        for (ThatchLane x : all) {
            for (int what : new int[] {MIN, -101, -2, -1, 10, 11, 100, MAX}) {
                c.due("25 count(" + what + ")", x.count(what), OUTSIDE);
            }
            for (int what = 0; what <= 9; what++) {
                c.holds("25 count(" + what + ") is told", x.count(what) >= 0);
            }
        }
    }

    private static void counted(String text, ThatchLane x, int... due) {
        for (int what = 0; what <= 9; what++) {
            c.due("25 count(" + what + ") of " + text, x.count(what), due[what]);
        }
    }

    private static void countOfNone() {
        counted("none", Scenes.none(), 0, 0, 0, 0, 0, 0, 0, 0, 0, 0);
        counted("none with a full page", Scenes.noneWithFullPage(), 0, 0, 0, 0, 0, 0, 0, 0, 26, 0);
        counted("a bald one", Checks.laneOf("w00"), 1, 0, 0, 0, 0, 0, 0, 0, 0, 1);
        counted("six", Checks.laneOf("h99,w99,o99,y99,t99,h99"), 6, 54, 54, 0, 0, 0, 0, 0, 0, 1);
    }

    // "4 HOUSES that have 10 REED, or more"
    private static void countTenReed() {
        c.due("25 of 9, 10, 11", Scenes.inYear(6, "w:9:0", "t:10:0", "h:11:0").count(4), 2);
        for (int reed = 0; reed <= 20; reed++) {
            c.due("25 10 or more, of " + reed, Scenes.inYear(6, "o:" + reed + ":0").count(4), reed >= 10 ? 1 : 0);
        }
        ThatchLane x = Scenes.inYear(6, "w:11:0", "w:12:0");
        x.comb(0);
        x.comb(1);
        c.due("25 of 11 and 12, combed", x.count(4), 1);
    }

    private static void countMost() {
        ThatchLane x = Scenes.inYear(6, "w:20:9", "y:20:9", "t:20:9", "w:20:9", "w:20:9", "w:20:9");
        for (int sight = 1; sight <= 6; sight++) {
            x.see(0, 9, 20);
        }
        counted("six full ones", x, 6, 120, 54, 0, 6, 6, 0, 6, 0, 1);
        for (int house = 0; house <= 5; house++) {
            x.comb(house);
            c.due("25 COMBED", x.count(3), house + 1);
        }
        counted("six full ones, combed", x, 6, 108, 54, 6, 6, 6, 0, 6, 0, 1);
        for (int house = 0; house <= 5; house++) {
            x.move(house, 1, 0);
        }
        counted("six full ones, combed and moved", x, 6, 108, 0, 6, 6, 6, 0, 6, 0, 1);
    }

    private static void countReadings() {
        ThatchLane x = new ThatchLane();
        for (int reading = 1; reading <= 20; reading++) {
            c.due("25 none on the page", x.lane(), STATE);
            c.due("25 that is no reading", x.count(9), reading - 1);
            Checks.type(x, "w93");
            x.lane();
            c.due("25 readings", x.count(9), reading);
        }
        x.image();
        Checks.type(x, "w93");
        x.restore();
        c.due("25 an image does not take them back", x.count(9), 20);
    }

    private static long mixed(long h, long... numbers) {
        for (long number : numbers) {
            h = 31 * h + number;
        }
        return h;
    }

    /** What digest() is by what the other calls tell, with the letters of the page as they were typed. */
    private static long mixedOfAll(ThatchLane x, String page) {
        long h = 1259;
        int many = x.count(0);
        for (int house = 0; house < many; house++) {
            for (int what = 0; what <= 6; what++) {
                h = mixed(h, x.house(house, what));
            }
            h = mixed(h, x.reaches(house, 12), x.dry(house, 8), x.odds(house, 4, 0), x.odds(house, 4, 1));
        }
        if (many > 0) {
            h = mixed(h, x.wet(9), x.plan(2, 9, 0), x.plan(2, 9, 1), x.plan(2, 9, 10), x.plan(2, 9, 11), x.twos(0));
            for (int what = 10; what <= 15; what++) {
                h = mixed(h, x.twos(what));
            }
            h = mixed(h, x.patch(12, 9, 0), x.patch(12, 9, 1));
        }
        for (char sign : page.toCharArray()) {
            h = mixed(h, sign);
        }
        for (int what = 0; what <= 9; what++) {
            h = mixed(h, x.count(what));
        }
        return h;
    }

    // "of each HOUSE .. with a LANE .. letters of THE PAGE .. what count() tells"
    private static void digestOfEach() {
        c.due("26 of none", Scenes.none().digest(), mixedOfAll(Scenes.none(), ""));
        c.due("26 of none, by its ten 0s", Scenes.none().digest(), mixed(1259, 0, 0, 0, 0, 0, 0, 0, 0, 0, 0));
        c.due("26 of one house", Scenes.plain().digest(), mixedOfAll(Scenes.plain(), ""));
        c.due("26 of six houses", Scenes.busy().digest(), mixedOfAll(Scenes.busy(), "w1"));
        c.due("26 of all that is full", Scenes.brimful().digest(),
            mixedOfAll(Scenes.brimful(), "h12,w34,o56,y78,t90,h12,w3"));
        for (int many = 1; many <= 6; many++) {
            String text = "h93,w92,o91,y90,t94,h55".substring(0, 4 * many - 1);
            c.due("26 of " + many, Checks.laneOf(text).digest(), mixedOfAll(Checks.laneOf(text), ""));
        }
        // Of these nearly each number that digest() asks by answers otherwise by one more, and by one less.
        String[] texts = {"t88,y44,h85,o99,y16", "t94,h47,y65,w69,o42", "t82,y73,h99,h79", "t24,y10,w80,w90"};
        for (String text : texts) {
            c.due("26 of " + text, Checks.laneOf(text).digest(), mixedOfAll(Checks.laneOf(text), ""));
        }
        ThatchLane x = Scenes.inYear(7, "t:20:9", "w:0:0", "y:19:9", "o:10:3");
        c.due("26 of 20 and 0", x.digest(), mixedOfAll(x, ""));
        c.due("26 again", x.digest(), mixedOfAll(x, ""));
        // By what is told of a wig of 9 with worry 3, alone, worked out by hand.
        long h = mixed(1259, 1, 9, 3, 0, 9, 1023, 1, 12, -1, 1, 1);
        h = mixed(h, 0, 0, 9, 0, 0, 0, -1, -1, -1, -1, -1, -1, 0, 3);
        c.due("26 of a wig", Scenes.plain().digest(), mixed(h, 1, 9, 3, 0, 0, 0, 0, 0, 0, 1));
    }

    // "letters of THE PAGE, each by its code"
    private static void digestOfThePage() {
        ThatchLane x = new ThatchLane();
        StringBuilder page = new StringBuilder();
        for (int many = 1; many <= 26; many++) {
            char sign = (char) (many % 2 == 0 ? 126 - many : 31 + many);
            x.letter(sign);
            page.append(sign);
            c.due("26 of " + many + " letters", x.digest(), mixedOfAll(x, page.toString()));
        }
        x.letter('x');
        c.due("26 of a 27th", x.digest(), mixedOfAll(x, page.toString()));
        x.blank();
        c.due("26 of none again", x.digest(), mixedOfAll(x, ""));
    }

    // "(as longs, wrapping)"
    private static void digestWraps() {
        java.math.BigInteger h = java.math.BigInteger.valueOf(1259);
        ThatchLane x = new ThatchLane();
        for (int letter = 1; letter <= 26; letter++) {
            x.letter(126);
            h = h.multiply(java.math.BigInteger.valueOf(31)).add(java.math.BigInteger.valueOf(126));
        }
        for (int what = 0; what <= 9; what++) {
            h = h.multiply(java.math.BigInteger.valueOf(31)).add(java.math.BigInteger.valueOf(what == 8 ? 26 : 0));
        }
        c.holds("26 it is beyond a long", h.bitLength() > 64);
        c.due("26 it wraps", x.digest(), h.longValue());
    }
}
