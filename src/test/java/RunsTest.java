/**
 * Many runs of calls of every length: what must hold after the last call, whatever came before. Only the last call is
 * looked at, for the questions are calls too, and nothing is promised after an object's 512th.
 */
public final class RunsTest {
    private static final int RUNS = 25000;
    private static final int MOST_CALLS_BEFORE = 200;
    private static final int[] ODD = {-1, -2, 8, 10, 31, 101, Integer.MIN_VALUE, Integer.MAX_VALUE};

    private long seed;
    private final Windlane field = new Windlane();

    private RunsTest(long seed) {
        this.seed = seed;
    }

    public static void main(String[] args) {
        for (int run = 0; run < RUNS; run++) {
            RunsTest test = new RunsTest(run);
            if (run % 4 != 0) {
                test.fill();
            }
            int callsBefore = test.below(MOST_CALLS_BEFORE);
            for (int call = 0; call < callsBefore; call++) {
                test.step(false);
            }
            test.step(true);
        }
        Check.finish();
    }

    private int below(int bound) {
        seed = seed * 6364136223846793005L + 1442695040888963407L;
        return (int) Math.floorMod(seed >>> 33, (long) bound);
    }

    /** Mostly a number from least to most, now and then one that fits nowhere. */
    private int some(int least, int most) {
        return below(40) == 0 ? ODD[below(ODD.length)] : least + below(most - least + 1);
    }

    /** Begins with all that the shed can hold, so that most calls of the run find something. */
    private void fill() {
        for (int i = 0; i < 8; i++) {
            field.kite(below(3), 1 + below(20), 1 + below(20));
            field.borrower(1 + below(3));
        }
    }

    private void step(boolean isLast) {
        int kind = below(16);
        String before = isLast ? Check.stateOf(field) : "";
        Class<?> thrown = Check.thrownBy(() -> call(kind, isLast));
        Check.isTrue("call " + kind + " threw " + thrown,
            thrown == null || thrown == Check.RANGE || thrown == Check.STATE || thrown == Check.INDEX);
        if (isLast) {
            Check.isTrue("call " + kind + " threw and changed something",
                thrown == null || before.equals(Check.stateOf(field)));
            lanesAgree();
            linesDoNotCross();
        }
    }

    private void call(int kind, boolean isLast) {
        switch (kind) {
            case 0: case 1:
                field.kite(some(0, 2), some(1, 20), some(1, 20));
                break;
            case 2:
                field.borrower(some(1, 3));
                break;
            case 3: case 4:
                field.lend(some(0, 7), some(0, 7));
                break;
            case 5:
                field.giveBack(some(0, 7));
                break;
            case 6: case 7: case 8: case 9:
                field.fly(some(0, 7), some(0, 9), some(10, 100));
                break;
            case 10:
                field.land(some(0, 7));
                break;
            case 11: case 12:
                tellWind(below(8) == 0 ? some(0, 30) : some(4, 10), some(-5, 5), isLast);
                break;
            case 13:
                field.rain(below(2) == 0);
                break;
            case 14:
                field.pass(some(1, below(2) == 0 ? 3 : 24));
                break;
            default:
                field.patch(some(0, 7));
        }
    }

    private void tellWind(int speed, int side, boolean isLast) {
        if (!isLast) {
            field.wind(speed, side);
            return;
        }
        int calledBefore = field.called();
        int flying = flyingKites();
        int calledDown = field.wind(speed, side);
        Check.due("kites flying after wind", flyingKites(), flying - calledDown);
        Check.due("called after wind", field.called(), calledBefore + calledDown);
        int kites = Check.kitesOf(field);
        for (int kite = 0; kite < kites; kite++) {
            int pull = field.pull(kite, speed);
            Check.due("pullAnew", field.pullAnew(kite, speed), pull);
            if (field.about(kite, 4) != Windlane.NONE) {
                Check.isTrue("a kite flies that does not hold", pull >= 100 && pull <= 6000);
            }
        }
    }

    private int flyingKites() {
        int count = 0;
        for (int lane = 0; lane < 10; lane++) {
            count += field.lane(lane) == Windlane.NONE ? 0 : 1;
        }
        return count;
    }

    private void lanesAgree() {
        int seen = 0;
        int kites = Check.kitesOf(field);
        for (int kite = 0; kite < kites; kite++) {
            int lane = field.about(kite, 4);
            if (lane != Windlane.NONE) {
                seen++;
                Check.due("kite in the lane", field.lane(lane), kite);
                Check.isTrue("a kite flies that nobody has", field.about(kite, 3) != Windlane.NONE);
                Check.isTrue("a torn kite flies", field.about(kite, 1) == 0);
            }
        }
        Check.due("kites that fly", flyingKites(), seen);
    }

    private void linesDoNotCross() {
        int last = Integer.MIN_VALUE;
        for (int lane = 0; lane < 10; lane++) {
            int kite = field.lane(lane);
            if (kite != Windlane.NONE) {
                int end = field.about(kite, 5);
                Check.isTrue("lines cross", end > last);
                last = end;
            }
        }
    }
}
