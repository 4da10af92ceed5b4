/** What the tests of the project share: answers against what is due, and lanes typed letter by letter. */
final class Checks {
    private final String about;
    private int asked = 0;
    private int wrong = 0;

    Checks(String about) {
        this.about = about;
    }

    void due(String call, long got, long want) {
        asked++;
        if (got != want) {
            wrong++;
            if (wrong <= 40) {
                System.out.println(about + ": " + call + " answered " + got + ", due is " + want);
            }
        }
    }

    void holds(String what, boolean so) {
        due(what, so ? 1 : 0, 1);
    }

    boolean anyWrong() {
        return wrong > 0;
    }

    void end() {
        System.out.println(about + ": " + asked + " checks, " + wrong + " wrong");
        if (wrong > 0 || asked == 0) {
            System.exit(1);
        }
    }

    static void type(ThatchLane x, String text) {
        for (int i = 0; i < text.length(); i++) {
            if (x.letter(text.charAt(i)) < 0) {
                throw new IllegalStateException("can't type " + text);
            }
        }
    }

    static ThatchLane laneOf(String text) {
        ThatchLane x = new ThatchLane();
        type(x, text);
        if (x.lane() != (text.length() + 1) / 4) {
            throw new IllegalStateException("no lane: " + text);
        }
        return x;
    }
}
