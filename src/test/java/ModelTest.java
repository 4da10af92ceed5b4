/** Long runs of all calls, right and wrong ones, each answer against the model's; the runs are the same each time. */
public final class ModelTest {
    private static final int RUNS = 250;
    private static final int CALLS = 500;
    private static final Checks c = new Checks("ModelTest");

    private long seed;
    private ThatchLane x;
    private Model m;
    private final StringBuilder told = new StringBuilder();

    public static void main(String[] args) {
        for (int run = 1; run <= RUNS && !c.anyWrong(); run++) {
            new ModelTest(run).go();
        }
        c.end();
    }

    private ModelTest(long run) {
        seed = run * 0x9E3779B97F4A7C15L;
        x = new ThatchLane();
        m = new Model();
    }

    /** A number from 0 below many. */
    private int of(int many) {
        seed ^= seed << 13;
        seed ^= seed >>> 7;
        seed ^= seed << 17;
        return (int) Math.floorMod(seed >>> 3, (long) many);
    }

    /** Mostly a number of the range, now and then one just beside it or far out. */
    private int near(int least, int most) {
        int die = of(40);
        if (die == 0) {
            return least - 1;
        }
        if (die == 1) {
            return most + 1;
        }
        if (die == 2) {
            int[] far = {Integer.MIN_VALUE, Integer.MAX_VALUE, -1, 100, -100};
            return far[of(far.length)];
        }
        return least + of(most - least + 1);
    }

    private int aHouse() {
        int many = Math.max(1, m.count(0));
        return of(50) == 0 ? near(0, 5) : of(many);
    }

    private void check(String call, long got, long want) {
        told.append(call).append(' ');
        if (got != want) {
            System.out.println("after " + told);
        }
        c.due(call, got, want);
    }

    private void typeLane() {
        StringBuilder text = new StringBuilder();
        int houses = 1 + of(6);
        for (int house = 0; house < houses; house++) {
            text.append(house > 0 ? "," : "").append("hwoyt".charAt(of(5))).append(of(10)).append(of(10));
        }
        if (of(6) == 0) {
            text.setCharAt(of(text.length()), (char) (32 + of(95)));
        }
        if (of(12) == 0) {
            text.append(",h0".charAt(of(3)));
        }
        if (of(12) == 0) {
            text.setLength(of(text.length()));
        }
        for (int i = 0; i < text.length(); i++) {
            letter(text.charAt(i));
        }
        check("fault()", x.fault(), m.fault());
        check("lane()", x.lane(), m.lane());
        if (of(4) > 0) {
            check("blank()", x.blank(), m.blank());
        }
    }

    private void letter(int code) {
        check("letter(" + code + ")", x.letter(code), m.letter(code));
    }

    private void go() {
        typeLane();
        for (int call = 0; call < CALLS && !c.anyWrong(); call++) {
            int die = of(100);
            if (die < 42) {
                done(die);
            } else if (die < 90) {
                asked(die);
            } else {
                rare(die);
            }
        }
        check("digest()", x.digest(), m.digest());
    }

    private void done(int die) {
        int house = aHouse();
        if (die < 12) {
            check("year()", x.year(), m.year());
        } else if (die < 20) {
            int rain = near(0, 20);
            check("rain(" + rain + ")", x.rain(rain), m.rain(rain));
        } else if (die < 28) {
            check("cheer(" + house + ")", x.cheer(house), m.cheer(house));
        } else if (die < 34) {
            check("comb(" + house + ")", x.comb(house), m.comb(house));
        } else if (die < 38) {
            int kind = near(0, 4);
            int worry = near(0, 9);
            check("move(" + house + "," + kind + "," + worry + ")", x.move(house, kind, worry),
                m.move(house, kind, worry));
        } else {
            see(house);
        }
    }

    private void see(int house) {
        int years = near(1, 9);
        int reed = near(0, 20);
        // A sight that fits some worry says more than one that fits none.
        int now = m.house(house, 1);
        if (now >= 0 && of(4) > 0) {
            reed = Math.max(0, Math.min(20, now + of(5) * (of(2) == 0 ? -1 : 1)));
            years = 1 + of(3);
        }
        check("see(" + house + "," + years + "," + reed + ")", x.see(house, years, reed), m.see(house, years, reed));
    }

    private void asked(int die) {
        int house = aHouse();
        int rain = near(0, 20);
        if (die < 54) {
            int what = near(0, 6);
            check("house(" + house + "," + what + ")", x.house(house, what), m.house(house, what));
        } else if (die < 57) {
            int kind = near(0, 4);
            check("as(" + house + "," + kind + ")", x.as(house, kind), m.as(house, kind));
        } else if (die < 60) {
            check("reaches(" + house + "," + rain + ")", x.reaches(house, rain), m.reaches(house, rain));
        } else if (die < 63) {
            check("wet(" + rain + ")", x.wet(rain), m.wet(rain));
        } else if (die < 67) {
            check("dry(" + house + "," + rain + ")", x.dry(house, rain), m.dry(house, rain));
        } else if (die < 71) {
            int years = near(1, of(4) == 0 ? 4 : 2);
            int what = of(3) == 0 ? near(0, 1) : near(10, 13);
            check("plan(" + years + "," + rain + "," + what + ")", x.plan(years, rain, what),
                m.plan(years, rain, what));
        } else if (die < 76) {
            int what = of(3) == 0 ? near(0, 0) : near(10, 15);
            check("twos(" + what + ")", x.twos(what), m.twos(what));
        } else if (die < 80) {
            int bundles = near(0, 30);
            int what = near(0, 1);
            check("patch(" + rain + "," + bundles + "," + what + ")", x.patch(rain, bundles, what),
                m.patch(rain, bundles, what));
        } else if (die < 84) {
            int years = near(1, 7);
            int what = near(0, 1);
            check("odds(" + house + "," + years + "," + what + ")", x.odds(house, years, what),
                m.odds(house, years, what));
        } else if (die < 87) {
            ages();
        } else {
            int what = near(0, 9);
            check("count(" + what + ")", x.count(what), m.count(what));
        }
    }

    private void ages() {
        int times = near(1, 60);
        int start = of(20) == 0 ? near(0, 9) : of(Integer.MAX_VALUE);
        int what = near(0, 2);
        check("ages(" + times + "," + start + "," + what + ")", x.ages(times, start, what),
            m.ages(times, start, what));
    }

    private void rare(int die) {
        if (die == 90) {
            check("forget()", x.forget(), m.forget());
        } else if (die == 91) {
            check("image()", x.image(), m.image());
        } else if (die == 92) {
            check("restore()", x.restore(), m.restore());
        } else if (die == 93 && of(6) == 0) {
            typeLane();
        } else if (die == 94) {
            check("lane()", x.lane(), m.lane());
        } else if (die == 95 && of(8) == 0) {
            check("blank()", x.blank(), m.blank());
        } else if (die == 96) {
            letter(of(3) == 0 ? near(32, 126) : "hwoyt,0123456789".charAt(of(16)));
        } else if (die == 97) {
            check("fault()", x.fault(), m.fault());
        } else if (die >= 98) {
            check("digest()", x.digest(), m.digest());
        }
    }
}
