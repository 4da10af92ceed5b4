/** Each HOUSE that there can be alone (each KIND, REED, WORRY, COMBED or not, odd YEAR or even) against the model. */
public final class EachHouseTest {
    private static final Checks c = new Checks("EachHouseTest");

    private final String text;
    private final ThatchLane x;
    private final Model m;

    public static void main(String[] args) {
        for (int kind = 0; kind <= 4; kind++) {
            for (int reed = 0; reed <= 20; reed++) {
                for (int years = 6; years <= 7; years++) {
                    eachWorry(kind, reed, years, false);
                    // What is COMBED has 2 less than it had, so 18 is most.
                    if (reed <= 18) {
                        eachWorry(kind, reed, years, true);
                    }
                }
            }
        }
        c.end();
    }

    private static void eachWorry(int kind, int reed, int years, boolean combed) {
        for (int worry = 0; worry <= 9; worry++) {
            String house = Scenes.KINDS.charAt(kind) + ":" + (combed ? reed + 2 : reed) + ":" + worry;
            new EachHouseTest(house, years, combed).wouldBe();
        }
        // What WORRY it has is no matter to what can be SEEN, so one of them will do.
        String house = Scenes.KINDS.charAt(kind) + ":" + (combed ? reed + 2 : reed) + ":0";
        new EachHouseTest(house, years, combed).seen();
    }

    private EachHouseTest(String house, int years, boolean combed) {
        text = house + (combed ? " combed" : "") + " in year " + years + ": ";
        x = Scenes.inYear(years, house);
        m = modelInYear(years, house);
        if (combed) {
            due("comb(0)", x.comb(0), m.comb(0));
        }
        due("digest()", x.digest(), m.digest());
    }

    private static Model modelInYear(int years, String house) {
        Model made = new Model();
        String lane = Scenes.textOf(years, house);
        for (int i = 0; i < lane.length(); i++) {
            made.letter(lane.charAt(i));
        }
        made.lane();
        for (int year = 1; year <= years; year++) {
            made.year();
        }
        made.move(0, Scenes.KINDS.indexOf(house.charAt(0)), Scenes.numberIn(house, 2));
        return made;
    }

    private void due(String call, long got, long want) {
        c.due(text + call, got, want);
    }

    private void wouldBe() {
        for (int what = 0; what <= 6; what++) {
            due("house(0, " + what + ")", x.house(0, what), m.house(0, what));
        }
        for (int rain = 0; rain <= 20; rain++) {
            due("wet(" + rain + ")", x.wet(rain), m.wet(rain));
            due("dry(0, " + rain + ")", x.dry(0, rain), m.dry(0, rain));
            due("patch(" + rain + ", 9, 0)", x.patch(rain, 9, 0), m.patch(rain, 9, 0));
            due("patch(" + rain + ", 9, 1)", x.patch(rain, 9, 1), m.patch(rain, 9, 1));
        }
        for (int years = 1; years <= 7; years++) {
            due("odds(0, " + years + ", 0)", x.odds(0, years, 0), m.odds(0, years, 0));
            due("odds(0, " + years + ", 1)", x.odds(0, years, 1), m.odds(0, years, 1));
        }
        for (int years = 1; years <= 4; years++) {
            due("plan(" + years + ", 9, 0)", x.plan(years, 9, 0), m.plan(years, 9, 0));
            due("plan(" + years + ", 9, 1)", x.plan(years, 9, 1), m.plan(years, 9, 1));
        }
        for (int what = 0; what <= 2; what++) {
            due("ages(20, 5, " + what + ")", x.ages(20, 5, what), m.ages(20, 5, what));
        }
        whatIsDone();
    }

    private void whatIsDone() {
        due("image()", x.image(), m.image());
        for (int step = 0; step < 3; step++) {
            due("year()", x.year(), m.year());
            due("reed", x.house(0, 1), m.house(0, 1));
            due("rain(12)", x.rain(12), m.rain(12));
            due("comb(0)", x.comb(0), m.comb(0));
            due("cheer(0)", x.cheer(0), m.cheer(0));
        }
        due("digest()", x.digest(), m.digest());
        due("restore()", x.restore(), m.restore());
        due("digest() behind restore()", x.digest(), m.digest());
    }

    /** Each REED that could be SEEN behind each number of YEARS, alone: what WORRIES it leaves, and when to LOOK then. */
    private void seen() {
        for (int years = 1; years <= 9; years++) {
            int before = -1;
            for (int worry = 9; worry >= 0; worry--) {
                int reed = m.reedBehind(0, worry, years);
                // Less WORRY is as much REED or more, so like ones stand together.
                if (reed != before) {
                    sight(years, reed);
                }
                before = reed;
            }
        }
    }

    private void sight(int years, int reed) {
        String sight = "see(0, " + years + ", " + reed + ")";
        due(sight, x.see(0, years, reed), m.see(0, years, reed));
        due("house(0, 5) behind " + sight, x.house(0, 5), m.house(0, 5));
        due("house(0, 6) behind " + sight, x.house(0, 6), m.house(0, 6));
        due("forget()", x.forget(), m.forget());
    }
}
