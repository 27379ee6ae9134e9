/** A kite field: kites, the shed that lends them, the lanes they fly in and the wind that calls them down. */
public final class Windlane {
    public static final int NONE = -1;
    public static final int DELTA = 0, BOX = 1, SLED = 2;

    private static final int MOST_KITES = 8;
    private static final int MOST_BORROWERS = 8;
    private static final int LANES = 10;

    private static final int MOST_AREA = 20;
    private static final int MOST_WEIGHT_BUILT = 20;
    private static final int MOST_WEIGHT_PATCHED = 40;
    private static final int WEIGHT_OF_PATCH = 2;
    private static final int MOST_SKILL = 3;

    private static final int LEAST_LENGTH = 10;
    private static final int MOST_LENGTH = 100;
    private static final int MOST_SPEED = 30;
    private static final int MOST_SIDE = 5;
    private static final int MOST_HOURS = 24;
    private static final int WET_HOURS = 6;

    private static final int HUNDREDTHS = 100;
    private static final int LEAST_PULL = 100;
    private static final int MOST_PULL = 6000;
    private static final int DELTA_LIFT = 5;
    private static final int BOX_LIFT = 60;
    private static final int SLED_LIFT = 80;
    private static final int SLED_MOST_SPEED = 10;
    private static final int LANE_WIDTH = 100;
    private static final int LINE_STIFFNESS = 1000;

    private static final int ABOUT_WEIGHT = 0;
    private static final int ABOUT_TORN = 1;
    private static final int ABOUT_WET = 2;
    private static final int ABOUT_BORROWER = 3;
    private static final int ABOUT_LANE = 4;
    private static final int ABOUT_END = 5;

    private static final int SIGN_BIT = 1 << 31;
    private static final int FRACTION_BITS = 23;
    private static final int FRACTION_SIZE = 1 << FRACTION_BITS;
    private static final int EXPONENT_OF_ONE = 127;
    private static final int MOST_EXPONENT = 254;

    private final Kite[] kites;
    private int kiteCount;
    private final Borrower[] borrowers;
    private int borrowerCount;
    /** The kite in each lane, null where the lane is free. */
    private final Kite[] flyers;
    private int windSpeed;
    private int windSide;
    private boolean isRaining;
    private int calledCount;

    public Windlane() {
        kites = new Kite[MOST_KITES];
        borrowers = new Borrower[MOST_BORROWERS];
        flyers = new Kite[LANES];
    }

    // ---- kites, shed

    public int kite(int kind, int area, int weight) throws IllegalArgumentException, IllegalStateException {
        if (!isWithin(kind, DELTA, SLED) || !isWithin(area, 1, MOST_AREA) || !isWithin(weight, 1, MOST_WEIGHT_BUILT)) {
            throw new IllegalArgumentException("kind, area or weight is out of range");
        }
        if (kiteCount >= MOST_KITES) {
            throw new IllegalStateException("there are 8 kites");
        }
        int number = kiteCount;
        kites[number] = new Kite(number, kind, area, weight);
        kiteCount++;
        return number;
    }

    public int patch(int kite) throws IndexOutOfBoundsException, IllegalStateException {
        Kite patched = kiteAt(kite);
        if (!patched.isTorn) {
            throw new IllegalStateException("the kite is not torn");
        }
        if (patched.weight + WEIGHT_OF_PATCH > MOST_WEIGHT_PATCHED) {
            throw new IllegalStateException("the kite would be too heavy");
        }
        patched.isTorn = false;
        patched.weight += WEIGHT_OF_PATCH;
        return patched.weight;
    }

    public int borrower(int skill) throws IllegalArgumentException, IllegalStateException {
        if (!isWithin(skill, 1, MOST_SKILL)) {
            throw new IllegalArgumentException("skill is out of range");
        }
        if (borrowerCount >= MOST_BORROWERS) {
            throw new IllegalStateException("there are 8 borrowers");
        }
        int number = borrowerCount;
        borrowers[number] = new Borrower(skill);
        borrowerCount++;
        return number;
    }

    public void lend(int kite, int borrower) throws IndexOutOfBoundsException, IllegalStateException {
        Kite lent = kiteAt(kite);
        Borrower taker = borrowerAt(borrower);
        if (!lent.isLendable() || !taker.canTake(lent)) {
            throw new IllegalStateException("the kite cannot be lent to this borrower");
        }
        lent.borrower = borrower;
        taker.held = lent;
    }

    public int giveBack(int borrower) throws IndexOutOfBoundsException, IllegalStateException {
        Borrower giver = borrowerAt(borrower);
        Kite returned = giver.held;
        if (returned == null || returned.isFlying()) {
            throw new IllegalStateException("the borrower has no kite that could be given back");
        }
        giver.held = null;
        returned.borrower = NONE;
        return returned.number;
    }

    // ---- lanes, wind

    public int fly(int kite, int lane, int length)
            throws IndexOutOfBoundsException, IllegalArgumentException, IllegalStateException {
        Kite flyer = kiteAt(kite);
        if (!isLane(lane)) {
            throw new IndexOutOfBoundsException("there is no such lane");
        }
        if (!isWithin(length, LEAST_LENGTH, MOST_LENGTH)) {
            throw new IllegalArgumentException("length is out of range");
        }
        if (!flyer.isReadyIn(windSpeed) || flyers[lane] != null) {
            throw new IllegalStateException("the kite cannot fly, or the lane is not free");
        }
        int end = flyer.endAt(lane, length, windSpeed, windSide);
        if (wouldCross(lane, end)) {
            throw new IllegalStateException("lines would cross");
        }
        flyer.lane = lane;
        flyer.length = length;
        flyers[lane] = flyer;
        return end;
    }

    public int land(int kite) throws IndexOutOfBoundsException, IllegalStateException {
        Kite landing = kiteAt(kite);
        int lane = landing.lane;
        if (!isLane(lane)) {
            throw new IllegalStateException("the kite is not flying");
        }
        clearLane(lane);
        return lane;
    }

    public int wind(int speed, int side) throws IllegalArgumentException {
        if (!isSpeed(speed) || !isWithin(side, -MOST_SIDE, MOST_SIDE)) {
            throw new IllegalArgumentException("speed or side is out of range");
        }
        windSpeed = speed;
        windSide = side;
        int calledBefore = calledCount;
        callDownUnheld();
        callDownCrossing();
        return calledCount - calledBefore;
    }

    public boolean rain(boolean is) {
        boolean wasRaining = isRaining;
        isRaining = is;
        return wasRaining;
    }

    public int pass(int hours) throws IllegalArgumentException {
        if (!isWithin(hours, 1, MOST_HOURS)) {
            throw new IllegalArgumentException("hours is out of range");
        }
        for (int hour = 0; hour < hours; hour++) {
            spendHour();
        }
        return countWet();
    }

    // ---- questions

    public int pull(int kite, int speed) throws IndexOutOfBoundsException, IllegalArgumentException {
        Kite asked = kiteAt(kite);
        if (!isSpeed(speed)) {
            throw new IllegalArgumentException("speed is out of range");
        }
        return asked.pullIn(speed);
    }

    public int pullAnew(int kite, int speed) throws IndexOutOfBoundsException, IllegalArgumentException {
        Kite asked = kiteAt(kite);
        if (!isSpeed(speed)) {
            throw new IllegalArgumentException("speed is out of range");
        }
        return asked.pullByStepsTo(speed);
    }

    public int tension(int kite) throws IndexOutOfBoundsException {
        Kite asked = kiteAt(kite);
        return bitsOf(asked.tensionIn(windSpeed));
    }

    public int window(int kite, boolean isGreatest) throws IndexOutOfBoundsException {
        Kite asked = kiteAt(kite);
        for (int tried = 0; tried <= MOST_SPEED; tried++) {
            int speed = isGreatest ? MOST_SPEED - tried : tried;
            if (asked.holdsIn(speed)) {
                return speed;
            }
        }
        return NONE;
    }

    public int about(int kite, int what) throws IndexOutOfBoundsException, IllegalArgumentException {
        Kite asked = kiteAt(kite);
        switch (what) {
            case ABOUT_WEIGHT:
                return asked.weight;
            case ABOUT_TORN:
                return asked.isTorn ? 1 : 0;
            case ABOUT_WET:
                return asked.wetHours;
            case ABOUT_BORROWER:
                return asked.borrower;
            case ABOUT_LANE:
                return asked.lane;
            case ABOUT_END:
                return asked.isFlying() ? asked.endIn(windSpeed, windSide) : NONE;
            default:
                throw new IllegalArgumentException("what is out of range");
        }
    }

    public int lane(int lane) throws IndexOutOfBoundsException {
        if (!isLane(lane)) {
            throw new IndexOutOfBoundsException("there is no such lane");
        }
        Kite flyer = flyers[lane];
        return flyer == null ? NONE : flyer.number;
    }

    public int called() {
        return calledCount;
    }

    // ---- what the calls above share

    private static boolean isWithin(int value, int least, int most) {
        return value >= least && value <= most;
    }

    private static boolean isSpeed(int speed) {
        return isWithin(speed, 0, MOST_SPEED);
    }

    private static boolean isLane(int lane) {
        return isWithin(lane, 0, LANES - 1);
    }

    private Kite kiteAt(int number) throws IndexOutOfBoundsException {
        Kite found = isWithin(number, 0, MOST_KITES - 1) ? kites[number] : null;
        if (found == null) {
            throw new IndexOutOfBoundsException("there is no such kite");
        }
        return found;
    }

    private Borrower borrowerAt(int number) throws IndexOutOfBoundsException {
        Borrower found = isWithin(number, 0, MOST_BORROWERS - 1) ? borrowers[number] : null;
        if (found == null) {
            throw new IndexOutOfBoundsException("there is no such borrower");
        }
        return found;
    }

    /** Whether a line in a free lane, with this end, would cross one that is there; those never cross each other. */
    private boolean wouldCross(int lane, int end) {
        for (int other = 0; other < LANES; other++) {
            Kite flyer = flyers[other];
            if (flyer != null) {
                int otherEnd = flyer.endIn(windSpeed, windSide);
                if (other < lane ? otherEnd >= end : end >= otherEnd) {
                    return true;
                }
            }
        }
        return false;
    }

    private void clearLane(int lane) {
        Kite flyer = isLane(lane) ? flyers[lane] : null;
        if (flyer != null) {
            flyer.lane = NONE;
            flyers[lane] = null;
        }
    }

    private void callDown(int lane) {
        clearLane(lane);
        calledCount++;
    }

    private void callDownUnheld() {
        for (int lane = 0; lane < LANES; lane++) {
            Kite flyer = flyers[lane];
            if (flyer != null && !flyer.holdsIn(windSpeed)) {
                flyer.isTorn = flyer.pullIn(windSpeed) > MOST_PULL;
                callDown(lane);
            }
        }
    }

    private void callDownCrossing() {
        // Every round but the last empties a lane, so as many rounds as lanes are enough.
        for (int round = 0; round < LANES; round++) {
            int lane = weakerLaneOfFirstCrossing();
            if (lane == NONE) {
                return;
            }
            callDown(lane);
        }
    }

    private int weakerLaneOfFirstCrossing() {
        for (int low = 0; low < LANES; low++) {
            for (int high = low + 1; high < LANES; high++) {
                Kite lower = flyers[low];
                Kite higher = flyers[high];
                if (lower != null && higher != null
                        && lower.endIn(windSpeed, windSide) >= higher.endIn(windSpeed, windSide)) {
                    return lower.pullIn(windSpeed) < higher.pullIn(windSpeed) ? low : high;
                }
            }
        }
        return NONE;
    }

    private void spendHour() {
        for (Kite kite : kites) {
            if (kite != null) {
                kite.spendHour(isRaining);
            }
        }
    }

    private int countWet() {
        int count = 0;
        for (Kite kite : kites) {
            if (kite != null && kite.wetHours > 0) {
                count++;
            }
        }
        return count;
    }

    /** The bits of a float as IEEE 754 orders them, found by halving and doubling, which lose nothing here. */
    private static int bitsOf(float value) {
        if (value == 0f) {
            return 0;
        }
        int sign = value < 0f ? SIGN_BIT : 0;
        float size = value < 0f ? -value : value;
        int exponent = EXPONENT_OF_ONE;
        while (size >= 2f && exponent < MOST_EXPONENT) {
            size = size / 2f;
            exponent++;
        }
        while (size < 1f && exponent > 1) {
            size = size * 2f;
            exponent--;
        }
        int fraction = (int) (size * (float) FRACTION_SIZE) - FRACTION_SIZE;
        return sign | exponent << FRACTION_BITS | fraction;
    }

    private static final class Kite {
        final int number;
        final int kind;
        final int area;
        int weight;
        boolean isTorn;
        int wetHours;
        int borrower;
        int lane;
        int length;

        Kite(int number, int kind, int area, int weight) {
            this.number = number;
            this.kind = kind;
            this.area = area;
            this.weight = weight;
            this.borrower = NONE;
            this.lane = NONE;
        }

        boolean isFlying() {
            return lane != NONE;
        }

        boolean isLendable() {
            return borrower == NONE && !isTorn && wetHours == 0;
        }

        boolean isReadyIn(int speed) {
            return borrower != NONE && !isTorn && !isFlying() && holdsIn(speed);
        }

        boolean holdsIn(int speed) {
            return isWithin(pullIn(speed), LEAST_PULL, MOST_PULL);
        }

        int pullIn(int speed) {
            return liftIn(speed) - HUNDREDTHS * weight;
        }

        int liftIn(int speed) {
            switch (kind) {
                case DELTA:
                    return DELTA_LIFT * area * speed * speed;
                case BOX:
                    return BOX_LIFT * area * speed;
                default:
                    return SLED_LIFT * area * (speed > SLED_MOST_SPEED ? SLED_MOST_SPEED : speed);
            }
        }

        int pullByStepsTo(int speed) {
            int sum = -HUNDREDTHS * weight;
            for (int step = 1; step <= speed; step++) {
                sum += liftAddedBy(step);
            }
            return sum;
        }

        /** What the wind adds as it grows from step - 1 to step. */
        int liftAddedBy(int step) {
            switch (kind) {
                case DELTA:
                    // Squares differ by the odd numbers.
                    return DELTA_LIFT * area * (2 * step - 1);
                case BOX:
                    return BOX_LIFT * area;
                default:
                    return step <= SLED_MOST_SPEED ? SLED_LIFT * area : 0;
            }
        }

        float tensionIn(int speed) {
            float whole = (float) pullIn(speed) / (float) HUNDREDTHS;
            return area > 0 ? whole / (float) area : whole;
        }

        int endIn(int speed, int side) {
            return endAt(lane, length, speed, side);
        }

        int endAt(int laneOfLine, int lengthOfLine, int speed, int side) {
            int stiffness = LINE_STIFFNESS + pullIn(speed);
            // Only a kite that holds has a line, so this is never 0 or less; the test keeps the division safe.
            int drift = stiffness > 0 ? side * lengthOfLine * LINE_STIFFNESS / stiffness : 0;
            return LANE_WIDTH * laneOfLine + drift;
        }

        void spendHour(boolean isRaining) {
            if (isRaining && isFlying()) {
                wetHours = WET_HOURS;
            } else if (wetHours > 0) {
                wetHours--;
            }
        }
    }

    private static final class Borrower {
        final int skill;
        /** The kite the borrower has, null without one. */
        Kite held;

        Borrower(int skill) {
            this.skill = skill;
        }

        boolean canTake(Kite kite) {
            return held == null && skill > kite.kind;
        }
    }
}
