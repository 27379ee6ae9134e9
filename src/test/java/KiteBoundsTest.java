/** The bounds that 'Kites' names, and those of promises 1, 2, 3 and 12 to 15, a sentence each. */
public final class KiteBoundsTest {
    private static final int DELTA = Windlane.DELTA, BOX = Windlane.BOX, SLED = Windlane.SLED;

    /** The nearest pulls there are to the ends of what holds: kind, area, weight, speed, pull. */
    private static final int[][] LEAST_THAT_HOLDS = {{DELTA, 20, 3, 2, 100}, {BOX, 5, 2, 1, 100},
        {SLED, 1, 7, 10, 100}};
    private static final int[][] JUST_TOO_LITTLE = {{DELTA, 11, 4, 3, 95}, {BOX, 3, 1, 1, 80}, {SLED, 6, 4, 1, 80}};
    private static final int[][] MOST_THAT_HOLDS = {{DELTA, 13, 5, 10, 6000}, {BOX, 20, 12, 6, 6000},
        {SLED, 20, 20, 5, 6000}};
    private static final int[][] JUST_TOO_MUCH = {{DELTA, 9, 16, 13, 6005}, {BOX, 17, 1, 6, 6020},
        {SLED, 12, 7, 7, 6020}};

    public static void main(String[] args) {
        aNewObjectHasNoKites();
        aNewObjectHasNoBorrowers();
        aNewObjectHasNoWind();
        aNewObjectHasNoRain();
        kitesAreNumberedFromZero();
        aNinthKiteIsRefused();
        kindIsDeltaToSled();
        areaIsOneToTwenty();
        weightIsOneToTwenty();
        aNewKiteIsInTheShed();
        windsAreZeroToThirty();
        pullsAtTheEndsOfTheWinds();
        aSledTakesNoMoreThanTen();
        pullAnewAddsEachStep();
        holdsFromHundred();
        holdsToSixThousand();
        windowIsTheLeastWind();
        windowIsTheGreatestWind();
        windowMayBeOneWind();
        windowIsNoneIfThereIsNone();
        patchIsForTheTornAlone();
        patchWorksWhereverItIs();
        patchAddsTwo();
        patchGoesToForty();
        tensionOfNothing();
        tensionBelowZero();
        tensionIsOfTheWindOfNow();
        tensionIsRoundedAtEachStep();
        answersStandToTheLastCall();
        Check.finish();
    }

    private static void aNewObjectHasNoKites() {
        Check.sentence("Promise 1: Begins without kites");
        for (int number : new int[] {0, 1, 7}) {
            Check.refused("about", Check.INDEX, Windlane::new, field -> field.about(number, 0));
        }
        Check.due("the first kite", new Windlane().kite(DELTA, 1, 1), 0);
    }

    private static void aNewObjectHasNoBorrowers() {
        Check.sentence("Promise 1: Begins without borrowers");
        for (int number : new int[] {0, 1, 7}) {
            Check.refused("giveBack", Check.INDEX, Windlane::new, field -> field.giveBack(number));
        }
        Check.due("the first borrower", new Windlane().borrower(1), 0);
    }

    private static void aNewObjectHasNoWind() {
        Check.sentence("The wind has a speed and a side, both 0 at first");
        for (int kind = DELTA; kind <= SLED; kind++) {
            Windlane field = Fields.inShed(kind, 20, 1);
            field.lend(0, 0);
            Check.due("tension", field.tension(0), Float.floatToIntBits(-1f / 20f));
            Check.throwsIt("fly", Check.STATE, () -> field.fly(0, 0, 10));
        }
    }

    private static void aNewObjectHasNoRain() {
        Check.sentence("Promise 1: Begins without rain");
        Windlane field = Fields.flying();
        Check.due("pass", field.pass(1), 0);
        Check.isTrue("it rained", !field.rain(true));
    }

    private static void kitesAreNumberedFromZero() {
        Check.sentence("Kites are numbered from 0, at most 8");
        Windlane field = new Windlane();
        for (int number = 0; number < 8; number++) {
            Check.due("kite", field.kite(number % 3, number + 1, number + 2), number);
        }
        for (int number = 0; number < 8; number++) {
            Check.due("weight of " + number, field.about(number, 0), number + 2);
        }
    }

    private static void aNinthKiteIsRefused() {
        Check.sentence("Promise 2: Throws IllegalStateException if there are 8");
        Check.refused("the ninth kite", Check.STATE, Fields::full, field -> field.kite(DELTA, 1, 1));
        Check.refused("the tenth kite", Check.STATE, KiteBoundsTest::refusedOnce, field -> field.kite(SLED, 20, 20));
    }

    private static Windlane refusedOnce() {
        Windlane field = Fields.full();
        Check.throwsIt("the ninth kite", Check.STATE, () -> field.kite(DELTA, 1, 1));
        return field;
    }

    private static void kindIsDeltaToSled() {
        Check.sentence("Promise 2: kind: DELTA to SLED");
        for (int bad : Check.outside(DELTA, SLED)) {
            Check.refused("kind " + bad, Check.RANGE, Windlane::new, field -> field.kite(bad, 10, 10));
        }
        for (int kind = DELTA; kind <= SLED; kind++) {
            Check.due("kind " + kind, new Windlane().kite(kind, 10, 10), 0);
        }
    }

    private static void areaIsOneToTwenty() {
        Check.sentence("Promise 2: area: 1 to 20");
        for (int kind = DELTA; kind <= SLED; kind++) {
            int built = kind;
            for (int bad : Check.outside(1, 20)) {
                Check.refused("area " + bad, Check.RANGE, Windlane::new, field -> field.kite(built, bad, 10));
            }
            Check.due("area 1", new Windlane().kite(kind, 1, 10), 0);
            Check.due("area 20", new Windlane().kite(kind, 20, 10), 0);
        }
    }

    private static void weightIsOneToTwenty() {
        Check.sentence("Promise 2: weight: 1 to 20");
        for (int kind = DELTA; kind <= SLED; kind++) {
            int built = kind;
            for (int bad : Check.outside(1, 20)) {
                Check.refused("weight " + bad, Check.RANGE, Windlane::new, field -> field.kite(built, 10, bad));
            }
            for (int weight : new int[] {1, 20}) {
                Windlane field = new Windlane();
                Check.due("weight " + weight, field.kite(kind, 10, weight), 0);
                Check.due("its weight", field.about(0, 0), weight);
            }
        }
    }

    private static void aNewKiteIsInTheShed() {
        Check.sentence("Promise 2: Builds a kite; it is in the shed");
        Windlane field = new Windlane();
        field.borrower(1);
        field.kite(DELTA, 10, 5);
        int[] due = {5, 0, 0, Windlane.NONE, Windlane.NONE, Windlane.NONE};
        for (int what = 0; what < due.length; what++) {
            Check.due("about " + what, field.about(0, what), due[what]);
        }
        field.lend(0, 0);
        Check.due("who has it", field.about(0, 3), 0);
    }

    private static void windsAreZeroToThirty() {
        Check.sentence("Promises 12 and 13: speed: 0 to 30");
        for (int kind = DELTA; kind <= SLED; kind++) {
            Windlane made = Fields.inShed(kind, 1, 1);
            for (int bad : Check.outside(0, 30)) {
                Check.throwsIt("pull in " + bad, Check.RANGE, () -> made.pull(0, bad));
                Check.throwsIt("pullAnew in " + bad, Check.RANGE, () -> made.pullAnew(0, bad));
            }
        }
        for (int bad : Check.outside(0, 30)) {
            Check.refused("pull in " + bad, Check.RANGE, Fields::flying, field -> field.pull(0, bad));
            Check.refused("pullAnew in " + bad, Check.RANGE, Fields::flying, field -> field.pullAnew(0, bad));
        }
    }

    private static void pullIsDue(int kind, int area, int weight, int speed, int due) {
        Windlane field = Fields.inShed(kind, area, weight);
        Check.due("pull in " + speed, field.pull(0, speed), due);
        Check.due("pullAnew in " + speed, field.pullAnew(0, speed), due);
    }

    private static void pullsAtTheEndsOfTheWinds() {
        Check.sentence("Its lift in a wind, 0 to 30, in hundredths; its pull is the lift less 100 times the weight");
        int[] speeds = {0, 1, 29, 30};
        // The widest and lightest kite of each kind, then the smallest and heaviest.
        int[][] wide = {{-100, 0, 84000, 89900}, {-100, 1100, 34700, 35900}, {-100, 1500, 15900, 15900}};
        int[][] small = {{-2000, -1995, 2205, 2500}, {-2000, -1940, -260, -200}, {-2000, -1920, -1200, -1200}};
        for (int kind = DELTA; kind <= SLED; kind++) {
            for (int i = 0; i < speeds.length; i++) {
                pullIsDue(kind, 20, 1, speeds[i], wide[kind][i]);
                pullIsDue(kind, 1, 20, speeds[i], small[kind][i]);
            }
        }
    }

    private static void aSledTakesNoMoreThanTen() {
        Check.sentence("of a SLED 80 times the area times the wind, but as if that was 10, if it is more");
        int[] speeds = {9, 10, 11, 12};
        int[] dues = {2580, 2900, 2900, 2900};
        for (int i = 0; i < speeds.length; i++) {
            pullIsDue(SLED, 4, 3, speeds[i], dues[i]);
        }
        pullIsDue(BOX, 4, 3, 11, 2340);
        pullIsDue(DELTA, 4, 3, 11, 2120);
    }

    private static void pullAnewAddsEachStep() {
        Check.sentence("Promise 13: Returns the same, found by what each step of wind adds to it");
        for (int kind = DELTA; kind <= SLED; kind++) {
            Windlane field = Fields.inShed(kind, 7, 9);
            for (int speed = 0; speed <= 30; speed++) {
                Check.due("pullAnew in " + speed, field.pullAnew(0, speed), field.pull(0, speed));
            }
        }
    }

    private static void flyIsDue(int[][] rows, boolean holds) {
        for (int[] row : rows) {
            Check.due("pull", Fields.inShed(row[0], row[1], row[2]).pull(0, row[3]), row[4]);
            if (holds) {
                Windlane field = Fields.lent(row[0], row[1], row[2], row[3], 0);
                Check.due("fly with a pull of " + row[4], field.fly(0, 6, 10), 600);
            } else {
                Check.refused("fly with a pull of " + row[4], Check.STATE,
                    () -> Fields.lent(row[0], row[1], row[2], row[3], 0), field -> field.fly(0, 6, 10));
            }
        }
    }

    private static void holdsFromHundred() {
        Check.sentence("It holds in a wind, if its pull is 100");
        flyIsDue(LEAST_THAT_HOLDS, true);
        flyIsDue(JUST_TOO_LITTLE, false);
    }

    private static void holdsToSixThousand() {
        Check.sentence("It holds in a wind, if its pull is to 6000");
        flyIsDue(MOST_THAT_HOLDS, true);
        flyIsDue(JUST_TOO_MUCH, false);
    }

    private static void windowIsTheLeastWind() {
        Check.sentence("Promise 15: Returns the least wind in which a kite holds");
        for (int[] row : LEAST_THAT_HOLDS) {
            Check.due("least wind", Fields.inShed(row[0], row[1], row[2]).window(0, false), row[3]);
        }
        for (int[] row : JUST_TOO_LITTLE) {
            Check.due("least wind", Fields.inShed(row[0], row[1], row[2]).window(0, false), row[3] + 1);
        }
    }

    private static void windowIsTheGreatestWind() {
        Check.sentence("Promise 15: Returns the greatest wind in which a kite holds");
        for (int[] row : MOST_THAT_HOLDS) {
            Check.due("greatest wind", Fields.inShed(row[0], row[1], row[2]).window(0, true), row[3]);
        }
        for (int[] row : JUST_TOO_MUCH) {
            Check.due("greatest wind", Fields.inShed(row[0], row[1], row[2]).window(0, true), row[3] - 1);
        }
        Check.due("greatest of all winds", Fields.inShed(SLED, 1, 7).window(0, true), 30);
    }

    private static void windowMayBeOneWind() {
        Check.sentence("Promise 15: Returns the wind");
        Windlane last = Fields.inShed(BOX, 1, 17);
        Check.due("pull in 30", last.pull(0, 30), 100);
        Check.due("least wind", last.window(0, false), 30);
        Check.due("greatest wind", last.window(0, true), 30);
        Check.due("the least wind of all", Fields.inShed(SLED, 20, 1).window(0, false), 1);
    }

    private static void windowIsNoneIfThereIsNone() {
        Check.sentence("Promise 15: NONE if there is none");
        for (int[] row : new int[][] {{BOX, 1, 18}, {BOX, 1, 20}, {SLED, 1, 8}, {SLED, 2, 16}}) {
            Windlane field = Fields.inShed(row[0], row[1], row[2]);
            Check.isTrue("it holds in 30", field.pull(0, 30) < 100);
            Check.due("least wind", field.window(0, false), Windlane.NONE);
            Check.due("greatest wind", field.window(0, true), Windlane.NONE);
        }
    }

    private static void patchIsForTheTornAlone() {
        Check.sentence("Promise 3: Throws IllegalStateException if it is not torn");
        Check.refused("patch of a new kite", Check.STATE, () -> Fields.inShed(DELTA, 10, 5), field -> field.patch(0));
        Check.refused("patch of a lent kite", Check.STATE, Fields::ready, field -> field.patch(0));
        Check.refused("patch of a flying kite", Check.STATE, Fields::flying, field -> field.patch(0));
        Check.refused("patch of a wet kite", Check.STATE, () -> Fields.wet(6), field -> field.patch(0));
        Check.refused("patch once more", Check.STATE, KiteBoundsTest::patchedOnce, field -> field.patch(0));
    }

    private static Windlane patchedOnce() {
        Windlane field = Fields.torn();
        field.patch(0);
        return field;
    }

    private static void patchWorksWhereverItIs() {
        Check.sentence("A patch makes a kite that is torn whole, wherever it is");
        Windlane lent = Fields.torn();
        Check.due("patch of a lent kite", lent.patch(0), 7);
        Check.due("torn", lent.about(0, 1), 0);
        Check.due("who has it", lent.about(0, 3), 0);
        Windlane inShed = Fields.torn();
        inShed.giveBack(0);
        Check.due("patch in the shed", inShed.patch(0), 7);
        Check.due("torn", inShed.about(0, 1), 0);
        Check.due("who has it", inShed.about(0, 3), Windlane.NONE);
        inShed.lend(0, 0);
        Check.due("fly of a patched kite", inShed.fly(0, 9, 10), 911);
    }

    private static void patchAddsTwo() {
        Check.sentence("A patch makes its weight 2 more");
        Windlane field = Fields.torn();
        Check.due("weight of the torn", field.about(0, 0), 5);
        Check.due("patch", field.patch(0), 7);
        Check.due("weight", field.about(0, 0), 7);
        Check.due("pull", field.pull(0, 8), 2500);
        Check.due("pullAnew", field.pullAnew(0, 8), 2500);
        Check.due("tension", field.tension(0), Float.floatToIntBits(2.5f));
        Check.due("end by the new weight", field.fly(0, 3, 50), 357);
    }

    /** A kite that is torn and weighs this, 2 or more above what it was built with. */
    private static Windlane tornOfWeight(int weight) {
        int built = 18 + weight % 2;
        Windlane field = Fields.lent(DELTA, 20, built, 8, 4);
        Fields.tear(field);
        for (int patched = built + 2; patched <= weight; patched += 2) {
            Check.due("patch", field.patch(0), patched);
            Fields.tear(field);
        }
        return field;
    }

    private static void patchGoesToForty() {
        Check.sentence("Promise 3: Throws IllegalStateException if its weight would be above 40");
        Check.due("patch of 37", tornOfWeight(37).patch(0), 39);
        Check.due("patch of 38", tornOfWeight(38).patch(0), 40);
        Check.refused("patch of 39", Check.STATE, () -> tornOfWeight(39), field -> field.patch(0));
        Check.refused("patch of 40", Check.STATE, () -> tornOfWeight(40), field -> field.patch(0));
        Check.due("still torn", tornOfWeight(39).about(0, 1), 1);
    }

    private static void tensionOfNothing() {
        Check.sentence("Promise 14: as an int by its bits; of a pull of 0");
        Check.due("tension of a BOX", Fields.lent(BOX, 5, 3, 1, 0).tension(0), 0);
        Check.due("tension of a DELTA", Fields.lent(DELTA, 20, 1, 1, 5).tension(0), 0);
        Check.due("tension of a SLED", Fields.lent(SLED, 1, 8, 30, -5).tension(0), 0);
    }

    private static void tensionBelowZero() {
        Check.sentence("Promise 14: the hundredths, divided by 100, divided by the area; of a pull below 0");
        Check.due("-20 / 1", Fields.lent(DELTA, 1, 20, 0, 0).tension(0), 0xC1A00000);
        Check.due("-1 / 20", Fields.lent(BOX, 20, 1, 0, 0).tension(0), 0xBD4CCCCD);
        Check.due("-0.05 / 1", Fields.lent(DELTA, 19, 1, 1, 0).tension(0), Float.floatToIntBits(-0.05f / 19f));
        Check.due("0.05 / 1", Fields.lent(DELTA, 9, 4, 3, 0).tension(0), Float.floatToIntBits(0.05f / 9f));
    }

    private static void tensionIsOfTheWindOfNow() {
        Check.sentence("Promise 14: Returns the pull of a kite in the wind of now");
        Windlane field = Fields.inShed(DELTA, 1, 1);
        float[] dues = {-1f, -0.95f, 44f};
        int[] speeds = {0, 1, 30};
        for (int i = 0; i < speeds.length; i++) {
            field.wind(speeds[i], 0);
            Check.due("tension in " + speeds[i], field.tension(0), Float.floatToIntBits(dues[i]));
        }
        field.wind(0, 0);
        Check.due("tension after all", field.tension(0), Float.floatToIntBits(-1f));
    }

    private static void tensionIsRoundedAtEachStep() {
        Check.sentence("Promise 14: divided by 100, divided by the area");
        int told = 0;
        for (int area = 1; area <= 20; area++) {
            for (int speed = 1; speed <= 30; speed++) {
                int pull = 5 * area * speed * speed - 300;
                float due = pull / 100f / area;
                Check.due("tension", Fields.lent(DELTA, area, 3, speed, 0).tension(0), Float.floatToIntBits(due));
                told += due != pull / (100f * area) ? 1 : 0;
            }
        }
        Check.isTrue("no row tells two divisions from one", told > 0);
    }

    private static void answersStandToTheLastCall() {
        Check.sentence("An object is used for at most 512 calls after it has been made");
        Windlane field = new Windlane();
        field.kite(DELTA, 10, 5);
        field.borrower(1);
        field.lend(0, 0);
        for (int round = 1; round <= 169; round++) {
            Check.due("wind", field.wind(8, 0), 0);
            Check.due("fly", field.fly(0, 9, 10), 900);
            Check.due("calm", field.wind(0, 0), 1);
        }
        Check.due("the 511th call", field.called(), 169);
        Check.due("the 512th call", field.lane(9), Windlane.NONE);
    }
}
