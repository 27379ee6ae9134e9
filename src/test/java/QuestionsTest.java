/** Promises 12 to 17: pull, pullAnew, tension, window, about, lane. */
public final class QuestionsTest {
    public static void main(String[] args) {
        pullFollowsTheKind();
        pullAnewIsTheSame();
        pullRefuses();
        pullsGoByTheWeightNow();
        tensionIsTheFloatsBits();
        tensionIsDividedStepByStep();
        windowHasKnownEdges();
        windowIsWhatHolds();
        windowGoesByTheWeightNow();
        aboutTellsAll();
        aboutRefuses();
        laneTellsTheKite();
        kitesThatAreNotThere();
        questionsChangeNothing();
        Check.finish();
    }

    private static void pullFollowsTheKind() {
        // kind, area, weight, speed, pull
        int[][] rows = {{0, 10, 5, 8, 2700}, {0, 1, 20, 0, -2000}, {0, 1, 20, 30, 2500}, {0, 20, 1, 30, 89900},
            {0, 3, 2, 1, -185}, {1, 5, 10, 4, 200}, {1, 20, 1, 30, 35900}, {1, 7, 20, 0, -2000}, {1, 1, 1, 2, 20},
            {2, 4, 3, 20, 2900}, {2, 4, 3, 9, 2580}, {2, 4, 3, 10, 2900}, {2, 4, 3, 11, 2900}, {2, 4, 3, 30, 2900},
            {2, 20, 20, 0, -2000}, {2, 1, 1, 1, -20}};
        for (int[] row : rows) {
            Windlane field = new Windlane();
            int kite = field.kite(row[0], row[1], row[2]);
            Check.due("pull", field.pull(kite, row[3]), row[4]);
            Check.due("pullAnew", field.pullAnew(kite, row[3]), row[4]);
        }
    }

    private static int pullByWords(int kind, int area, int weight, int speed) {
        int lift = kind == 0 ? 5 * area * speed * speed : kind == 1 ? 60 * area * speed
            : 80 * area * Math.min(speed, 10);
        return lift - 100 * weight;
    }

    private static void pullAnewIsTheSame() {
        for (int kind = 0; kind <= 2; kind++) {
            for (int area = 1; area <= 20; area++) {
                for (int weight = 1; weight <= 20; weight++) {
                    Windlane field = new Windlane();
                    int kite = field.kite(kind, area, weight);
                    for (int speed = 0; speed <= 30; speed++) {
                        int want = pullByWords(kind, area, weight, speed);
                        Check.due("pull", field.pull(kite, speed), want);
                        Check.due("pullAnew", field.pullAnew(kite, speed), want);
                    }
                }
            }
        }
    }

    private static void pullRefuses() {
        for (int bad : new int[] {-1, 31, Integer.MIN_VALUE, Integer.MAX_VALUE}) {
            Windlane field = new Windlane();
            int kite = field.kite(0, 10, 5);
            Check.refuses(field, "pull out of range", Check.RANGE, () -> field.pull(kite, bad));
            Check.refuses(field, "pullAnew out of range", Check.RANGE, () -> field.pullAnew(kite, bad));
            Check.refuses(field, "pull of no kite", Check.INDEX, () -> field.pull(1, bad));
            Check.refuses(field, "pullAnew of no kite", Check.INDEX, () -> field.pullAnew(1, bad));
        }
    }

    private static void pullsGoByTheWeightNow() {
        for (int kind = 0; kind <= 2; kind++) {
            Windlane field = new Windlane();
            int kite = Check.lentKite(field, kind, 20, 7);
            Check.tear(field, kite, field.window(kite, false));
            field.patch(kite);
            for (int speed = 0; speed <= 30; speed++) {
                int want = pullByWords(kind, 20, 9, speed);
                Check.due("pull of a patched kite", field.pull(kite, speed), want);
                Check.due("pullAnew of a patched kite", field.pullAnew(kite, speed), want);
            }
        }
    }

    private static void tensionIsTheFloatsBits() {
        // kind, area, weight, speed, bits
        int[][] rows = {{0, 10, 5, 8, 1076677837}, {0, 1, 20, 30, 1103626240}, {2, 20, 20, 5, 1077936128},
            {0, 1, 20, 0, 0xC1A00000}, {1, 5, 3, 1, 0}, {0, 1, 1, 0, 0xBF800000}, {2, 1, 6, 10, 0x40000000},
            {2, 1, 7, 10, 0x3F800000}, {2, 2, 15, 10, 0x3F000000}, {0, 20, 1, 30, 0x4233CCCD}};
        for (int[] row : rows) {
            Windlane field = new Windlane();
            int kite = field.kite(row[0], row[1], row[2]);
            field.wind(row[3], 3);
            Check.due("tension", field.tension(kite), row[4]);
        }
    }

    private static void tensionIsDividedStepByStep() {
        for (int kind = 0; kind <= 2; kind++) {
            for (int area = 1; area <= 20; area++) {
                for (int weight = 1; weight <= 20; weight++) {
                    Windlane field = new Windlane();
                    int kite = field.kite(kind, area, weight);
                    for (int speed = 0; speed <= 30; speed++) {
                        field.wind(speed, 0);
                        float whole = (float) pullByWords(kind, area, weight, speed) / 100f;
                        float want = whole / (float) area;
                        Check.due("tension", field.tension(kite), Float.floatToIntBits(want));
                    }
                }
            }
        }
    }

    private static void windowHasKnownEdges() {
        // kind, area, weight, least, greatest
        int[][] rows = {{0, 10, 5, 4, 11}, {1, 5, 10, 4, 23}, {2, 4, 3, 2, 30}, {0, 20, 3, 2, 7}, {0, 11, 4, 4, 10},
            {2, 20, 20, 2, 5}, {0, 9, 16, 7, 12}, {2, 1, 8, -1, -1}, {2, 1, 7, 10, 30}, {1, 1, 20, -1, -1},
            {1, 1, 17, 30, 30}, {1, 1, 18, -1, -1}, {0, 1, 20, 21, 30}};
        for (int[] row : rows) {
            Windlane field = new Windlane();
            int kite = field.kite(row[0], row[1], row[2]);
            Check.due("least wind", field.window(kite, false), row[3]);
            Check.due("greatest wind", field.window(kite, true), row[4]);
        }
    }

    private static void windowIsWhatHolds() {
        for (int kind = 0; kind <= 2; kind++) {
            for (int area = 1; area <= 20; area++) {
                for (int weight = 1; weight <= 20; weight++) {
                    int least = -1;
                    int greatest = -1;
                    for (int speed = 0; speed <= 30; speed++) {
                        int pull = pullByWords(kind, area, weight, speed);
                        if (pull >= 100 && pull <= 6000) {
                            least = least < 0 ? speed : least;
                            greatest = speed;
                        }
                    }
                    Windlane field = new Windlane();
                    int kite = field.kite(kind, area, weight);
                    Check.due("least wind", field.window(kite, false), least);
                    Check.due("greatest wind", field.window(kite, true), greatest);
                }
            }
        }
    }

    private static void windowGoesByTheWeightNow() {
        Windlane field = new Windlane();
        int kite = Check.lentKite(field, Windlane.DELTA, 10, 3);
        Check.due("least wind", field.window(kite, false), 3);
        Check.tear(field, kite, 5);
        Check.due("least wind of the torn", field.window(kite, false), 3);
        field.patch(kite);
        Check.due("least wind of the patched", field.window(kite, false), 4);
        Check.due("greatest wind of the patched", field.window(kite, true), 11);
    }

    private static void aboutTellsAll() {
        Windlane field = new Windlane();
        field.kite(0, 1, 1);
        field.borrower(3);
        int kite = Check.lentKite(field, Windlane.DELTA, 10, 5);
        field.wind(8, 5);
        field.fly(kite, 0, 100);
        field.rain(true);
        field.pass(1);
        int[] flying = {5, 0, 6, 1, 0, 135};
        for (int what = 0; what <= 5; what++) {
            Check.due("about " + what, field.about(kite, what), flying[what]);
            Check.due("about the other " + what, field.about(0, what), what == 0 ? 1 : what < 3 ? 0 : -1);
        }
        field.wind(10, -5);
        Check.due("end in the wind of now", field.about(kite, 5), -90);
        field.wind(20, 0);
        int[] down = {5, 1, 6, 1, -1, -1};
        for (int what = 0; what <= 5; what++) {
            Check.due("about " + what, field.about(kite, what), down[what]);
        }
    }

    private static void aboutRefuses() {
        Windlane field = new Windlane();
        field.kite(0, 10, 5);
        for (int bad : new int[] {-1, 6, Integer.MIN_VALUE, Integer.MAX_VALUE}) {
            Check.refuses(field, "about out of range", Check.RANGE, () -> field.about(0, bad));
            Check.refuses(field, "about no kite", Check.INDEX, () -> field.about(bad, bad));
        }
    }

    private static void laneTellsTheKite() {
        Windlane field = new Windlane();
        field.wind(8, 0);
        for (int i = 0; i < 8; i++) {
            field.fly(Check.lentKite(field, 0, 10, 5), 9 - i, 10);
        }
        for (int lane = 0; lane < 10; lane++) {
            Check.due("lane", field.lane(lane), lane < 2 ? Windlane.NONE : 9 - lane);
        }
        for (int bad : new int[] {-1, 10, Integer.MIN_VALUE, Integer.MAX_VALUE}) {
            Check.throwsIt("no lane", Check.INDEX, () -> field.lane(bad));
        }
    }

    private static void kitesThatAreNotThere() {
        for (int bad : new int[] {-1, 1, 7, 8, Integer.MIN_VALUE, Integer.MAX_VALUE}) {
            Windlane field = new Windlane();
            field.kite(0, 10, 5);
            Check.refuses(field, "pull", Check.INDEX, () -> field.pull(bad, 5));
            Check.refuses(field, "pullAnew", Check.INDEX, () -> field.pullAnew(bad, 5));
            Check.refuses(field, "tension", Check.INDEX, () -> field.tension(bad));
            Check.refuses(field, "window", Check.INDEX, () -> field.window(bad, true));
            Check.refuses(field, "window, least", Check.INDEX, () -> field.window(bad, false));
            Check.refuses(field, "about", Check.INDEX, () -> field.about(bad, 0));
        }
    }

    private static void questionsChangeNothing() {
        Windlane field = new Windlane();
        int kite = Check.lentKite(field, 0, 10, 5);
        field.wind(8, 4);
        field.fly(kite, 3, 50);
        String before = Check.stateOf(field);
        field.pull(kite, 30);
        field.pullAnew(kite, 30);
        field.tension(kite);
        field.window(kite, true);
        field.window(kite, false);
        field.lane(3);
        field.called();
        Check.isTrue("a question changed something", before.equals(Check.stateOf(field)));
    }
}
