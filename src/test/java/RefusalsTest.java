import java.util.LinkedHashMap;
import java.util.Map;
import java.util.function.Supplier;

/** "Refusals, of several the first as told by each call ..; they change nothing": each call, by all its numbers. */
public final class RefusalsTest {
    private static final int UNKNOWN = Scenes.UNKNOWN, OUTSIDE = Scenes.OUTSIDE, STATE = Scenes.STATE;
    private static final int FULL = Scenes.FULL, MIN = Scenes.MIN, MAX = Scenes.MAX;
    private static final int[] WRONG_CODES = {MIN, -1, 31, 127, 256 + 104, MAX};
    private static final int[] RAINS = {-1, 0, 20, 21};

    private static final Checks c = new Checks("RefusalsTest");

    /** With a lane: each is made anew for each refusal. */
    private static final Map<String, Supplier<ThatchLane>> LANES = new LinkedHashMap<>();
    private static final Map<String, Supplier<ThatchLane>> NO_LANES = new LinkedHashMap<>();

    static {
        LANES.put("plain", Scenes::plain);
        LANES.put("busy", Scenes::busy);
        LANES.put("brimful", Scenes::brimful);
        NO_LANES.put("none", Scenes::none);
        NO_LANES.put("page", Scenes::noneWithPage);
        NO_LANES.put("full page", Scenes::noneWithFullPage);
    }

    public static void main(String[] args) {
        letters();
        lanes();
        ofAHouse();
        ofAHouseAndARain();
        moves();
        odds();
        sights();
        combs();
        rains();
        plans();
        twos();
        patches();
        ages();
        counts();
        withoutALane();
        whereALongTimeHasGone();
        c.end();
    }

    private static boolean within(int number, int least, int most) {
        return number >= least && number <= most;
    }

    private static int housesOf(Supplier<ThatchLane> scene) {
        return scene.get().count(0);
    }

    /** Refused with this answer, or not at all, if it is none of them. */
    private static void refused(String scene, Supplier<ThatchLane> made, String call, Scenes.Call how, int want) {
        if (want < -100) {
            Scenes.refused(c, scene + ": " + call, made, how, want);
        }
    }

    private static Map<String, Supplier<ThatchLane>> allScenes() {
        Map<String, Supplier<ThatchLane>> all = new LinkedHashMap<>(LANES);
        all.putAll(NO_LANES);
        return all;
    }

    // "OUTSIDE: code (32 to 126); FULL: above 26."
    private static void letters() {
        allScenes().forEach((scene, made) -> {
            for (int code : WRONG_CODES) {
                refused(scene, made, "letter(" + code + ")", x -> x.letter(code), OUTSIDE);
            }
            if (made.get().count(8) == 26) {
                for (int code : new int[] {32, 'h', 126}) {
                    refused(scene, made, "letter(" + code + ")", x -> x.letter(code), FULL);
                }
            }
        });
    }

    // "STATE: it is none."
    private static void lanes() {
        allScenes().forEach((scene, made) -> refused(scene, made, "lane()", ThatchLane::lane, STATE));
    }

    // "UNKNOWN; OUTSIDE": a number that names no house ahead of what is not as told.
    private static void ofAHouse() {
        allScenes().forEach((scene, made) -> {
            int many = housesOf(made);
            for (int house : new int[] {MIN, -1, 0, many, MAX}) {
                boolean known = within(house, 0, many - 1);
                for (int what : new int[] {MIN, -1, 0, 6, 7, MAX}) {
                    int want = !known ? UNKNOWN : !within(what, 0, 6) ? OUTSIDE : 0;
                    refused(scene, made, "house(" + house + ", " + what + ")", x -> x.house(house, what), want);
                }
                for (int kind : new int[] {MIN, -1, 0, 4, 5, MAX}) {
                    int want = !known ? UNKNOWN : !within(kind, 0, 4) ? OUTSIDE : 0;
                    refused(scene, made, "as(" + house + ", " + kind + ")", x -> x.as(house, kind), want);
                }
                if (!known) {
                    refused(scene, made, "cheer(" + house + ")", x -> x.cheer(house), UNKNOWN);
                }
            }
        });
    }

    // "UNKNOWN: house; OUTSIDE: rain (0 to 20)"
    private static void ofAHouseAndARain() {
        allScenes().forEach((scene, made) -> {
            int many = housesOf(made);
            for (int house : new int[] {MIN, -1, 0, many, MAX}) {
                for (int rain : RAINS) {
                    int want = !within(house, 0, many - 1) ? UNKNOWN : !within(rain, 0, 20) ? OUTSIDE : 0;
                    refused(scene, made, "reaches(" + house + ", " + rain + ")", x -> x.reaches(house, rain), want);
                    refused(scene, made, "dry(" + house + ", " + rain + ")", x -> x.dry(house, rain), want);
                }
            }
        });
    }

    // "UNKNOWN; OUTSIDE: kind (0 to 4), worry (0 to 9)."
    private static void moves() {
        allScenes().forEach((scene, made) -> {
            int many = housesOf(made);
            for (int house : new int[] {-1, 0, many}) {
                for (int kind : new int[] {-1, 2, 5}) {
                    for (int worry : new int[] {-1, 7, 10}) {
                        boolean right = within(kind, 0, 4) && within(worry, 0, 9);
                        int want = !within(house, 0, many - 1) ? UNKNOWN : !right ? OUTSIDE : 0;
                        String call = "move(" + house + ", " + kind + ", " + worry + ")";
                        refused(scene, made, call, x -> x.move(house, kind, worry), want);
                    }
                }
            }
        });
    }

    // "UNKNOWN: house; OUTSIDE: years (1 to 7), what."
    private static void odds() {
        allScenes().forEach((scene, made) -> {
            int many = housesOf(made);
            for (int house : new int[] {-1, 0, many}) {
                for (int years : new int[] {0, 1, 7, 8}) {
                    for (int what : new int[] {-1, 0, 1, 2}) {
                        boolean right = within(years, 1, 7) && within(what, 0, 1);
                        int want = !within(house, 0, many - 1) ? UNKNOWN : !right ? OUTSIDE : 0;
                        String call = "odds(" + house + ", " + years + ", " + what + ")";
                        refused(scene, made, call, x -> x.odds(house, years, what), want);
                    }
                }
            }
        });
    }

    // "UNKNOWN: house; OUTSIDE: year (1 to 9), reed (0 to 20); FULL."
    private static void sights() {
        allScenes().forEach((scene, made) -> {
            int many = housesOf(made);
            boolean full = made.get().count(7) == 6;
            for (int house : new int[] {-1, 0, many}) {
                for (int year : new int[] {0, 1, 9, 10}) {
                    for (int reed : new int[] {-1, 0, 20, 21}) {
                        boolean right = within(year, 1, 9) && within(reed, 0, 20);
                        boolean known = within(house, 0, many - 1);
                        int want = !known ? UNKNOWN : !right ? OUTSIDE : full ? FULL : 0;
                        String call = "see(" + house + ", " + year + ", " + reed + ")";
                        refused(scene, made, call, x -> x.see(house, year, reed), want);
                    }
                }
            }
        });
    }

    // "UNKNOWN; STATE: it is COMBED, or has less than 2 REED."
    private static void combs() {
        allScenes().forEach((scene, made) -> {
            int many = housesOf(made);
            for (int house : new int[] {MIN, -1, many, MAX}) {
                refused(scene, made, "comb(" + house + ")", x -> x.comb(house), UNKNOWN);
            }
        });
        // The third is bald, the fourth is COMBED.
        refused("busy", Scenes::busy, "comb(2)", x -> x.comb(2), STATE);
        refused("busy", Scenes::busy, "comb(3)", x -> x.comb(3), STATE);
        Supplier<ThatchLane> bald = () -> Checks.laneOf("w00,w10,w20,w90");
        refused("bald", bald, "comb(0)", x -> x.comb(0), STATE);
        refused("bald", bald, "comb(1)", x -> x.comb(1), STATE);
        Supplier<ThatchLane> combed = () -> {
            ThatchLane x = bald.get();
            x.comb(2);
            x.comb(3);
            return x;
        };
        refused("combed", combed, "comb(2)", x -> x.comb(2), STATE);
        refused("combed", combed, "comb(3)", x -> x.comb(3), STATE);
    }

    // "OUTSIDE: rain (0 to 20); STATE: no LANE"
    private static void rains() {
        allScenes().forEach((scene, made) -> {
            boolean none = housesOf(made) == 0;
            for (int rain : new int[] {MIN, -1, 0, 9, 20, 21, MAX}) {
                int want = !within(rain, 0, 20) ? OUTSIDE : none ? STATE : 0;
                refused(scene, made, "wet(" + rain + ")", x -> x.wet(rain), want);
                refused(scene, made, "rain(" + rain + ")", x -> x.rain(rain), want);
            }
        });
    }

    // "OUTSIDE: years (1 to 4), rain (0 to 20), what; STATE: no LANE."
    private static void plans() {
        allScenes().forEach((scene, made) -> {
            boolean none = housesOf(made) == 0;
            for (int years : new int[] {0, 1, 4, 5}) {
                for (int rain : RAINS) {
                    for (int what : new int[] {-1, 0, 1, 2, 9, 10, 13, 14}) {
                        boolean told = within(what, 0, 1) || within(what, 10, 13);
                        boolean right = within(years, 1, 4) && within(rain, 0, 20) && told;
                        String call = "plan(" + years + ", " + rain + ", " + what + ")";
                        refused(scene, made, call, x -> x.plan(years, rain, what), !right ? OUTSIDE : none ? STATE : 0);
                    }
                }
            }
        });
    }

    // "OUTSIDE; STATE: no LANE."
    private static void twos() {
        allScenes().forEach((scene, made) -> {
            boolean none = housesOf(made) == 0;
            for (int what : new int[] {MIN, -1, 0, 1, 9, 10, 15, 16, MAX}) {
                boolean right = what == 0 || within(what, 10, 15);
                refused(scene, made, "twos(" + what + ")", x -> x.twos(what), !right ? OUTSIDE : none ? STATE : 0);
            }
        });
    }

    // "OUTSIDE: rain (0 to 20), bundles (0 to 30), what; STATE: no LANE."
    private static void patches() {
        allScenes().forEach((scene, made) -> {
            boolean none = housesOf(made) == 0;
            for (int rain : RAINS) {
                for (int bundles : new int[] {-1, 0, 30, 31}) {
                    for (int what : new int[] {-1, 0, 1, 2}) {
                        boolean right = within(rain, 0, 20) && within(bundles, 0, 30) && within(what, 0, 1);
                        String call = "patch(" + rain + ", " + bundles + ", " + what + ")";
                        refused(scene, made, call, x -> x.patch(rain, bundles, what), !right ? OUTSIDE : none ? STATE : 0);
                    }
                }
            }
        });
    }

    // "OUTSIDE: times (1 to 60), seed (0 at least), what; STATE: no LANE."
    private static void ages() {
        allScenes().forEach((scene, made) -> {
            boolean none = housesOf(made) == 0;
            for (int times : new int[] {0, 1, 60, 61}) {
                for (int seed : new int[] {MIN, -1, 0, MAX}) {
                    for (int what : new int[] {-1, 0, 2, 3}) {
                        boolean right = within(times, 1, 60) && seed >= 0 && within(what, 0, 2);
                        String call = "ages(" + times + ", " + seed + ", " + what + ")";
                        refused(scene, made, call, x -> x.ages(times, seed, what), !right ? OUTSIDE : none ? STATE : 0);
                    }
                }
            }
        });
    }

    // "OUTSIDE."
    private static void counts() {
        allScenes().forEach((scene, made) -> {
            for (int what : new int[] {MIN, -1, 10, MAX}) {
                refused(scene, made, "count(" + what + ")", x -> x.count(what), OUTSIDE);
            }
        });
    }

    // "STATE: no LANE"; "STATE: none was kept"
    private static void withoutALane() {
        NO_LANES.forEach((scene, made) -> {
            refused(scene, made, "year()", ThatchLane::year, STATE);
            refused(scene, made, "image()", ThatchLane::image, STATE);
            refused(scene, made, "restore()", ThatchLane::restore, STATE);
        });
        refused("plain", Scenes::plain, "restore()", ThatchLane::restore, STATE);
        Supplier<ThatchLane> readSince = () -> {
            ThatchLane x = Scenes.busy();
            x.blank();
            Checks.type(x, "h93,w52,o47,y31,t85,h24");
            x.lane();
            x.year();
            return x;
        };
        refused("read since", readSince, "restore()", ThatchLane::restore, STATE);
    }

    // "FULL: 999 did"; "FULL: 9000 were WET, or more": seen past the 512th call alone.
    private static void whereALongTimeHasGone() {
        Supplier<ThatchLane> old = () -> {
            ThatchLane x = Checks.laneOf("t93,h93,w93");
            for (int year = 1; year <= 999; year++) {
                if (year == 500) {
                    x.image();
                }
                x.year();
            }
            x.see(0, 1, 0);
            return x;
        };
        refused("999 years", old, "year()", ThatchLane::year, FULL);
        refused("999 years", old, "rain(21)", x -> x.rain(21), OUTSIDE);
        Supplier<ThatchLane> drenched = () -> {
            ThatchLane x = Checks.laneOf("w00,w00,w00,w00,w00,w00");
            x.image();
            for (int time = 1; time <= 1500; time++) {
                x.rain(20);
            }
            return x;
        };
        for (int rain : new int[] {-1, 0, 20, 21}) {
            int want = within(rain, 0, 20) ? FULL : OUTSIDE;
            refused("9000 wet", drenched, "rain(" + rain + ")", x -> x.rain(rain), want);
        }
    }
}
