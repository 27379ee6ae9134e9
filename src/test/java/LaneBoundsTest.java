/** The bounds that 'Lanes' names, and those of promises 7 to 9 and 16 to 18, a sentence each. */
public final class LaneBoundsTest {
    private static final int DELTA = Windlane.DELTA, BOX = Windlane.BOX, SLED = Windlane.SLED;

    /** In a wind of 5, the least pull that holds and the most: with a side of 5 a line drifts far, or little. */
    private static final int[] WEAK = {DELTA, 4, 4};
    private static final int[] STRONG = {SLED, 20, 20};
    /** In a wind of 3, pulls of 195 and 200, the nearest that there are. */
    private static final int[] PULL_195 = {DELTA, 11, 3};
    private static final int[] PULL_200 = {DELTA, 20, 7};
    private static final int[] SLED_OF_1000 = {SLED, 2, 6};

    public static void main(String[] args) {
        lanesAreZeroToNine();
        flyIsOfALentKite();
        lengthIsTenToHundred();
        flyIsNotOfTheTorn();
        flyIsNotOfTheFlying();
        flyIsInAWindInWhichItHolds();
        flyIsInAFreeLane();
        flyIsWithoutCrossingAHigherLine();
        flyIsWithoutCrossingALowerLine();
        flyIsWithoutCrossingBelowZero();
        flyIsWithoutCrossingFarAway();
        speedIsZeroToThirty();
        sideIsFiveToFive();
        endsAreRoundedTowardsZero();
        endsAreDividedByThousandAndThePull();
        endsMayBeBelowZero();
        windCallsDownBelowHundred();
        windTearsAboveSixThousand();
        windCallsDownWhoFlyAlone();
        windCallsDownAPullThatWouldDivideByNothing();
        windCallsDownTheUnheldFirst();
        windCallsDownAtEqualEnds();
        windCallsDownTheOneWithLessPull();
        windCallsDownTheHigherOfAlikePulls();
        windTakesTheLowestLaneFirst();
        windTakesTheLowestOtherLaneFirst();
        windGoesOnAsLongAsTwoCross();
        windCallsDownAllEight();
        landIsOfTheFlying();
        landReturnsTheLane();
        whatIsZeroToFive();
        whoHasItAndWhereIsNoneOrANumber();
        laneTellsKiteZeroFromNone();
        calledIsNotOfTheLanded();
        Check.finish();
    }

    private static void lanesAreZeroToNine() {
        Check.sentence("There are the lanes 0 to 9");
        for (int bad : Check.outside(0, 9)) {
            Check.refused("fly in lane " + bad, Check.INDEX, Fields::ready, field -> field.fly(0, bad, 10));
            Check.refused("lane " + bad, Check.INDEX, Fields::flying, field -> field.lane(bad));
        }
        for (int lane = 0; lane <= 9; lane++) {
            Windlane field = Fields.ready();
            Check.due("a lane without a kite", field.lane(lane), Windlane.NONE);
            Check.due("fly in lane " + lane, field.fly(0, lane, 10), 100 * lane + 10);
            Check.due("its lane", field.about(0, 4), lane);
            Check.due("the kite in lane " + lane, field.lane(lane), 0);
        }
    }

    private static Windlane inShedInWind() {
        Windlane field = Fields.ready();
        field.giveBack(0);
        return field;
    }

    private static void flyIsOfALentKite() {
        Check.sentence("Promise 7: Throws IllegalStateException if it is not lent");
        Check.refused("fly from the shed", Check.STATE, LaneBoundsTest::inShedInWind, field -> field.fly(0, 3, 50));
        Windlane field = inShedInWind();
        field.lend(0, 0);
        Check.due("fly of the lent", field.fly(0, 3, 50), 354);
    }

    private static void lengthIsTenToHundred() {
        Check.sentence("Promise 7: length: 10 to 100");
        for (int bad : Check.outside(10, 100)) {
            Check.refused("a line of " + bad, Check.RANGE, Fields::ready, field -> field.fly(0, 3, bad));
        }
        Check.due("a line of 10", Fields.ready().fly(0, 3, 10), 310);
        Check.due("a line of 100", Fields.ready().fly(0, 3, 100), 408);
    }

    private static void flyIsNotOfTheTorn() {
        Check.sentence("A kite that is lent flies, if it is neither torn");
        Check.refused("fly of the torn", Check.STATE, Fields::torn, field -> field.fly(0, 3, 50));
        Windlane field = Fields.torn();
        field.patch(0);
        Check.due("fly of the patched", field.fly(0, 3, 50), 357);
    }

    private static void flyIsNotOfTheFlying() {
        Check.sentence("A kite that is lent flies, if it is neither torn nor flying");
        for (int lane : new int[] {2, 3, 4}) {
            Check.refused("fly of the flying", Check.STATE, Fields::flying, field -> field.fly(0, lane, 100));
        }
        Windlane field = Fields.flying();
        field.land(0);
        Check.due("fly of the landed", field.fly(0, 4, 50), 454);
    }

    private static void flyIsInAWindInWhichItHolds() {
        Check.sentence("A kite that is lent flies, if it holds in the wind of now");
        int[][] rows = {{3, -1}, {4, 300}, {11, 300}, {12, -1}, {0, -1}, {30, -1}};
        for (int[] row : rows) {
            if (row[1] < 0) {
                Check.refused("fly in a wind of " + row[0], Check.STATE,
                    () -> Fields.lent(DELTA, 10, 5, row[0], 0), field -> field.fly(0, 3, 50));
            } else {
                Check.due("fly", Fields.lent(DELTA, 10, 5, row[0], 0).fly(0, 3, 50), row[1]);
            }
        }
    }

    /** Kite 0 flies in this lane with a line of 50, kite 1 is ready. */
    private static Windlane takenLane(int lane) {
        Windlane field = Fields.pair(new int[] {DELTA, 10, 5}, new int[] {DELTA, 10, 5}, 8, 4);
        field.fly(0, lane, 50);
        return field;
    }

    private static void flyIsInAFreeLane() {
        Check.sentence("A kite that is lent flies, if the lane is free");
        for (int lane : new int[] {0, 5, 9}) {
            for (int length : new int[] {10, 50, 100}) {
                Check.refused("fly in a taken lane", Check.STATE, () -> takenLane(lane),
                    field -> field.fly(1, lane, length));
            }
            Windlane field = takenLane(lane);
            field.land(0);
            Check.due("fly in a lane set free", field.fly(1, lane, 50), 100 * lane + 54);
        }
    }

    /** STRONG in this lane with a line of 13, its end 9 above the lane's; WEAK is ready. */
    private static Windlane strongIn(int lane) {
        Windlane field = Fields.pair(WEAK, STRONG, 5, 5);
        Check.due("end of the strong", field.fly(1, lane, 13), 100 * lane + 9);
        return field;
    }

    private static void flyIsWithoutCrossingAHigherLine() {
        Check.sentence("Two lines cross, if the end of that in the lower lane is at least that of the other one; "
            + "the other one flies");
        for (int lane = 0; lane <= 8; lane++) {
            int low = lane;
            Check.refused("fly to 13 above", Check.STATE, () -> strongIn(low + 1), field -> field.fly(0, low, 25));
            Check.refused("fly to 9 above, alike", Check.STATE, () -> strongIn(low + 1),
                field -> field.fly(0, low, 24));
            Check.due("fly to 4 above", strongIn(low + 1).fly(0, low, 23), 100 * low + 104);
        }
    }

    /** WEAK in this lane with a line of 24, its end 109 above the lane's; STRONG is ready. */
    private static Windlane weakIn(int lane) {
        Windlane field = Fields.pair(WEAK, STRONG, 5, 5);
        Check.due("end of the weak", field.fly(0, lane, 24), 100 * lane + 109);
        return field;
    }

    private static void flyIsWithoutCrossingALowerLine() {
        Check.sentence("Two lines cross, if the end of that in the lower lane is at least that of the other one; "
            + "the lower one flies");
        for (int lane = 1; lane <= 9; lane++) {
            int high = lane;
            Check.refused("fly to 8 above", Check.STATE, () -> weakIn(high - 1), field -> field.fly(1, high, 12));
            Check.refused("fly to 9 above, alike", Check.STATE, () -> weakIn(high - 1),
                field -> field.fly(1, high, 13));
            Check.due("fly to 10 above", weakIn(high - 1).fly(1, high, 14), 100 * high + 10);
        }
    }

    /** WEAK in lane 1 with a line of 24, its end at -9; STRONG is ready for lane 0. */
    private static Windlane weakBelowZero() {
        Windlane field = Fields.pair(WEAK, STRONG, 5, -5);
        Check.due("end of the weak", field.fly(0, 1, 24), -9);
        return field;
    }

    private static void flyIsWithoutCrossingBelowZero() {
        Check.sentence("Two lines cross, if the end of that in the lower lane is at least that of the other one; "
            + "both ends are below 0");
        Check.refused("fly to -8", Check.STATE, LaneBoundsTest::weakBelowZero, field -> field.fly(1, 0, 12));
        Check.refused("fly to -9, the same", Check.STATE, LaneBoundsTest::weakBelowZero,
            field -> field.fly(1, 0, 13));
        Check.due("fly to -10", weakBelowZero().fly(1, 0, 14), -10);
    }

    /** WEAK in lane 0 with a line of 100, its end at 454; STRONG is ready for lane 4. */
    private static Windlane weakAcrossFourLanes() {
        Windlane field = Fields.pair(WEAK, STRONG, 5, 5);
        Check.due("end of the weak", field.fly(0, 0, 100), 454);
        return field;
    }

    private static void flyIsWithoutCrossingFarAway() {
        Check.sentence("A kite that is lent flies, if no lines would cross; lanes 0 and 4");
        Check.refused("fly to 453", Check.STATE, LaneBoundsTest::weakAcrossFourLanes, field -> field.fly(1, 4, 75));
        Check.refused("fly to 454", Check.STATE, LaneBoundsTest::weakAcrossFourLanes, field -> field.fly(1, 4, 76));
        Check.due("fly to 455", weakAcrossFourLanes().fly(1, 4, 77), 455);
    }

    private static void speedIsZeroToThirty() {
        Check.sentence("Promise 9: speed: 0 to 30");
        for (int bad : Check.outside(0, 30)) {
            Check.refused("a speed of " + bad, Check.RANGE, Fields::flying, field -> field.wind(bad, 0));
        }
        Windlane field = Fields.inShed(DELTA, 1, 1);
        field.wind(30, 0);
        Check.due("tension in 30", field.tension(0), Float.floatToIntBits(44f));
        field.wind(0, 0);
        Check.due("tension in 0", field.tension(0), Float.floatToIntBits(-1f));
    }

    private static void sideIsFiveToFive() {
        Check.sentence("Promise 9: side: -5 to 5");
        for (int bad : Check.outside(-5, 5)) {
            Check.refused("a side of " + bad, Check.RANGE, Fields::flying, field -> field.wind(8, bad));
        }
        Windlane field = Fields.flying();
        int[] ends = {233, 246, 260, 273, 287, 300, 313, 327, 340, 354, 367};
        for (int side = -5; side <= 5; side++) {
            Check.due("called down", field.wind(8, side), 0);
            Check.due("end at a side of " + side, field.about(0, 5), ends[side + 5]);
        }
    }

    private static void endIsDue(int[] kite, int speed, int side, int lane, int length, int due) {
        Windlane field = Fields.lent(kite[0], kite[1], kite[2], speed, side);
        Check.due("fly", field.fly(0, lane, length), due);
        Check.due("about 5", field.about(0, 5), due);
    }

    private static void endsAreRoundedTowardsZero() {
        Check.sentence("The end of a line is 100 times the lane, and the side times its length times 1000, divided by "
            + "1000 and the pull together, rounded towards 0");
        // Halves, lengths of an odd number: 5.5, 247.5.
        endIsDue(SLED_OF_1000, 10, 1, 1, 11, 105);
        endIsDue(SLED_OF_1000, 10, -1, 1, 11, 95);
        endIsDue(SLED_OF_1000, 10, 5, 4, 99, 647);
        endIsDue(SLED_OF_1000, 10, -5, 4, 99, 153);
        // No remainder: 5.
        endIsDue(SLED_OF_1000, 10, 1, 1, 10, 105);
        endIsDue(SLED_OF_1000, 10, -1, 1, 10, 95);
        // 138.9 of a drift below 0, in lane 3.
        endIsDue(new int[] {SLED, 2, 8}, 10, -5, 3, 50, 162);
    }

    private static void endsAreDividedByThousandAndThePull() {
        Check.sentence("divided by 1000 and the pull together");
        // 5 * 22 * 1000 is 100 times 1100, and not 100 times 1101.
        endIsDue(WEAK, 5, 5, 0, 22, 100);
        endIsDue(WEAK, 5, -5, 0, 22, -100);
        // 5 * 19 * 1000 is less than 83 times 1145, and not less than 83 times 1144.
        endIsDue(new int[] {DELTA, 1, 1}, 7, 5, 0, 19, 82);
        endIsDue(new int[] {DELTA, 1, 1}, 7, -5, 0, 19, -82);
        // 5 * 49 * 1000 is less than 214 times 1145; with 1001 for both it would not be.
        endIsDue(new int[] {DELTA, 1, 1}, 7, 5, 0, 49, 213);
        endIsDue(new int[] {DELTA, 1, 1}, 7, -5, 0, 49, -213);
        // The end of the widest drift, and of the least.
        endIsDue(WEAK, 5, 5, 9, 100, 1354);
        endIsDue(WEAK, 5, -5, 9, 100, 446);
        endIsDue(STRONG, 5, 1, 9, 10, 901);
        endIsDue(STRONG, 5, 0, 9, 100, 900);
    }

    private static void endsMayBeBelowZero() {
        Check.sentence("Promise 16: 5 the end of its line in the wind of now (perhaps below 0), NONE if not flying");
        Windlane field = Fields.lent(SLED, 20, 20, 5, 0);
        Check.due("end of no line", field.about(0, 5), Windlane.NONE);
        field.fly(0, 0, 10);
        int[] ends = {-7, -5, -4, -2, -1, 0, 1, 2, 4, 5, 7};
        for (int side = -5; side <= 5; side++) {
            field.wind(5, side);
            Check.due("end at a side of " + side, field.about(0, 5), ends[side + 5]);
            Check.due("lane at a side of " + side, field.about(0, 4), 0);
        }
        field.land(0);
        Check.due("end after land", field.about(0, 5), Windlane.NONE);
    }

    /** The kite flies at the first speed; then the second is told. */
    private static void windIsDue(int[] kite, int speed, int told, int calledDown, int torn) {
        Windlane field = Fields.lent(kite[0], kite[1], kite[2], speed, 0);
        field.fly(0, 0, 10);
        Check.due("wind", field.wind(told, 0), calledDown);
        Check.due("torn", field.about(0, 1), torn);
        Check.due("its lane", field.about(0, 4), calledDown == 0 ? 0 : Windlane.NONE);
        Check.due("lane", field.lane(0), calledDown == 0 ? 0 : Windlane.NONE);
        Check.due("who has it", field.about(0, 3), 0);
        Check.due("called", field.called(), calledDown);
    }

    private static void windCallsDownBelowHundred() {
        Check.sentence("all kites that fly, and do not hold in it, are called down; a pull below 100");
        windIsDue(new int[] {DELTA, 20, 3}, 3, 2, 0, 0);
        windIsDue(new int[] {DELTA, 11, 4}, 4, 3, 1, 0);
        windIsDue(new int[] {BOX, 5, 2}, 2, 1, 0, 0);
        windIsDue(new int[] {BOX, 3, 1}, 2, 1, 1, 0);
        windIsDue(new int[] {SLED, 1, 7}, 30, 10, 0, 0);
        windIsDue(new int[] {SLED, 6, 4}, 2, 1, 1, 0);
    }

    private static void windTearsAboveSixThousand() {
        Check.sentence("all kites that fly, and do not hold in it, are called down; one with a pull above 6000 is "
            + "torn");
        windIsDue(new int[] {DELTA, 13, 5}, 9, 10, 0, 0);
        windIsDue(new int[] {DELTA, 9, 16}, 12, 13, 1, 1);
        windIsDue(new int[] {BOX, 20, 12}, 5, 6, 0, 0);
        windIsDue(new int[] {BOX, 17, 1}, 5, 6, 1, 1);
        windIsDue(new int[] {SLED, 20, 20}, 4, 5, 0, 0);
        windIsDue(new int[] {SLED, 12, 7}, 6, 7, 1, 1);
    }

    private static void windCallsDownWhoFlyAlone() {
        Check.sentence("all kites that fly, and do not hold in it, are called down; those on the ground are not");
        Windlane field = Fields.ready();
        Check.due("wind of 30", field.wind(30, 0), 0);
        Check.due("torn", field.about(0, 1), 0);
        Check.due("calm", field.wind(0, 0), 0);
        Check.due("called", field.called(), 0);
    }

    private static void windCallsDownAPullThatWouldDivideByNothing() {
        Check.sentence("divided by 1000 and the pull together; a pull of -1000 and below does not hold");
        int[][] rows = {{SLED, 5, 14, -1000}, {SLED, 5, 15, -1100}, {SLED, 10, 20, -1200}};
        for (int[] row : rows) {
            Windlane field = Fields.pair(new int[] {row[0], row[1], row[2]}, new int[] {SLED, 5, 1}, 9, 0);
            field.fly(0, 0, 100);
            field.fly(1, 1, 10);
            Check.due("pull", field.pull(0, 1), row[3]);
            Check.due("wind", field.wind(1, 5), 1);
            Check.due("lane 0", field.lane(0), Windlane.NONE);
            Check.due("lane 1", field.lane(1), 1);
            Check.due("calm", field.wind(0, -5), 1);
        }
    }

    private static void windCallsDownTheUnheldFirst() {
        Check.sentence("first all kites that fly, and do not hold in it, are called down. Then, as long as two lines "
            + "cross");
        for (int lane = 0; lane <= 1; lane++) {
            Windlane field = Fields.pair(new int[] {BOX, 2, 2}, new int[] {SLED, 20, 1}, 3, 0);
            field.fly(0, lane, 100);
            field.fly(1, 1 - lane, 10);
            // In a wind of 5 the SLED pulls 7900; the ends would be 357 and 105, or -257 and -5.
            Check.due("wind", field.wind(5, lane == 0 ? 5 : -5), 1);
            Check.due("the weak one's lane", field.about(0, 4), lane);
            Check.due("torn", field.about(1, 1), 1);
        }
    }

    private static void windCallsDownAtEqualEnds() {
        Check.sentence("as long as two lines cross: the end of that in the lower lane is at least that of the other");
        for (int low = 0; low <= 8; low++) {
            for (int length = 13; length <= 14; length++) {
                equalEndsAreDue(low, low + 1, length, 5);
                equalEndsAreDue(low + 1, low, length, -5);
            }
        }
    }

    /** WEAK and STRONG with their ends alike, if the line of STRONG is 13; with 14 they are 1 apart. */
    private static void equalEndsAreDue(int laneOfWeak, int laneOfStrong, int length, int side) {
        Windlane field = Fields.pair(WEAK, STRONG, 5, 0);
        field.fly(0, laneOfWeak, 24);
        field.fly(1, laneOfStrong, length);
        Check.due("wind", field.wind(5, side), length == 13 ? 1 : 0);
        Check.due("lane of the weak", field.lane(laneOfWeak), length == 13 ? Windlane.NONE : 0);
        Check.due("lane of the strong", field.lane(laneOfStrong), 1);
    }

    private static Windlane crossingAtThree(int[] low, int[] high) {
        Windlane field = Fields.pair(low, high, 3, 0);
        field.fly(0, 0, 100);
        field.fly(1, 1, 10);
        Check.due("wind", field.wind(3, 5), 1);
        Check.due("torn", field.about(0, 1) + field.about(1, 1), 0);
        return field;
    }

    private static void windCallsDownTheOneWithLessPull() {
        Check.sentence("the one with less pull is called down");
        Windlane lowIsLess = crossingAtThree(PULL_195, PULL_200);
        Check.due("lane 0", lowIsLess.lane(0), Windlane.NONE);
        Check.due("lane 1", lowIsLess.lane(1), 1);
        Windlane highIsLess = crossingAtThree(PULL_200, PULL_195);
        Check.due("lane 0", highIsLess.lane(0), 0);
        Check.due("lane 1", highIsLess.lane(1), Windlane.NONE);
    }

    private static void windCallsDownTheHigherOfAlikePulls() {
        Check.sentence("of alike pulls that in the higher lane");
        Windlane field = crossingAtThree(PULL_200, PULL_200);
        Check.due("lane 0", field.lane(0), 0);
        Check.due("lane 1", field.lane(1), Windlane.NONE);
        Windlane otherKinds = crossingAtThree(PULL_200, new int[] {SLED, 5, 10});
        Check.due("pull of the SLED", otherKinds.pull(1, 3), 200);
        Check.due("lane 0", otherKinds.lane(0), 0);
        Check.due("lane 1", otherKinds.lane(1), Windlane.NONE);
    }

    /** SLEDs with these pulls in a wind of 10 fly in lanes 7, 8 and 9 with these lines. */
    private static Windlane threeFlying(int[] pulls, int[] lengths) {
        Windlane field = new Windlane();
        field.wind(10, 0);
        for (int i = 0; i < 3; i++) {
            field.kite(SLED, 2, 16 - pulls[i] / 100);
            field.lend(i, field.borrower(3));
            field.fly(i, 7 + i, lengths[i]);
            Check.due("pull", field.pull(i, 10), pulls[i]);
        }
        return field;
    }

    private static void windTakesTheLowestLaneFirst() {
        Check.sentence("of the first such two (with the lowest lane, and then the lowest other one); the lowest lane");
        // The ends are 972, 1000 and 933: the third brings the first down, then the second the third.
        Windlane field = threeFlying(new int[] {100, 1000, 500}, new int[] {60, 80, 10});
        Check.due("wind", field.wind(10, 5), 2);
        Check.due("lane 7", field.lane(7), Windlane.NONE);
        Check.due("lane 8", field.lane(8), 1);
        Check.due("lane 9", field.lane(9), Windlane.NONE);
    }

    private static void windTakesTheLowestOtherLaneFirst() {
        Check.sentence("of the first such two (with the lowest lane, and then the lowest other one); the other one");
        // The ends are 1033, 845 and 925: the first brings the second down, then the third the first.
        Windlane field = threeFlying(new int[] {500, 100, 1000}, new int[] {100, 10, 10});
        Check.due("wind", field.wind(10, 5), 2);
        Check.due("lane 7", field.lane(7), Windlane.NONE);
        Check.due("lane 8", field.lane(8), Windlane.NONE);
        Check.due("lane 9", field.lane(9), 2);
    }

    /** Eight SLEDs with a pull of 100 in lanes 0 to 7, the first with a line of this length, the rest with 10. */
    private static Windlane eightFlying(int lengthOfFirst) {
        Windlane field = new Windlane();
        field.wind(10, 0);
        for (int i = 0; i < 8; i++) {
            field.kite(SLED, 2, 15);
            field.lend(i, field.borrower(3));
            field.fly(i, i, i == 0 ? lengthOfFirst : 10);
        }
        return field;
    }

    private static void windGoesOnAsLongAsTwoCross() {
        Check.sentence("Then, as long as two lines cross, the one is called down");
        // The ends of lanes 1 to 7 are 145, 245 and on; that of lane 0 is 140, 145, 240, 245 and 454.
        int[][] rows = {{31, 0}, {32, 1}, {53, 1}, {54, 2}, {100, 4}};
        for (int[] row : rows) {
            Windlane field = eightFlying(row[0]);
            Check.due("wind", field.wind(10, 5), row[1]);
            Check.due("called", field.called(), row[1]);
            for (int lane = 0; lane < 8; lane++) {
                Check.due("lane", field.lane(lane), lane >= 1 && lane <= row[1] ? Windlane.NONE : lane);
            }
            Check.due("the same wind", field.wind(10, 5), 0);
        }
    }

    private static void windCallsDownAllEight() {
        Check.sentence("Promise 9: Returns how many kites are called down");
        Windlane field = eightFlying(10);
        Check.due("a wind in which all hold", field.wind(30, -5), 0);
        Check.due("calm", field.wind(0, 0), 8);
        Check.due("called", field.called(), 8);
        Check.due("calm again", field.wind(0, 0), 0);
        Check.due("called again", field.called(), 8);
    }

    private static Windlane calledDown() {
        Windlane field = Fields.flying();
        field.wind(0, 0);
        field.wind(8, 4);
        return field;
    }

    private static Windlane landed() {
        Windlane field = Fields.flying();
        field.land(0);
        return field;
    }

    private static void landIsOfTheFlying() {
        Check.sentence("Promise 8: Throws IllegalStateException if it is not flying");
        Check.refused("land in the shed", Check.STATE, () -> Fields.inShed(DELTA, 10, 5), field -> field.land(0));
        Check.refused("land of the lent", Check.STATE, Fields::ready, field -> field.land(0));
        Check.refused("land of the landed", Check.STATE, LaneBoundsTest::landed, field -> field.land(0));
        Check.refused("land of the called down", Check.STATE, LaneBoundsTest::calledDown, field -> field.land(0));
        Check.refused("land of the torn", Check.STATE, Fields::torn, field -> field.land(0));
    }

    private static void landReturnsTheLane() {
        Check.sentence("Promise 8: Returns the lane in which it was");
        for (int lane = 0; lane <= 9; lane++) {
            Windlane field = Fields.ready();
            field.fly(0, lane, 10);
            Check.due("land", field.land(0), lane);
            Check.due("lane", field.lane(lane), Windlane.NONE);
        }
    }

    private static void whatIsZeroToFive() {
        Check.sentence("Promise 16: Throws IllegalArgumentException if what is out of range");
        for (int bad : Check.outside(0, 5)) {
            Check.refused("about " + bad, Check.RANGE, Fields::flying, field -> field.about(0, bad));
        }
        int[] dues = {5, 0, 0, 0, 3, 354};
        for (int what = 0; what <= 5; what++) {
            Check.due("about " + what, Fields.flying().about(0, what), dues[what]);
        }
    }

    private static void whoHasItAndWhereIsNoneOrANumber() {
        Check.sentence("Promise 16: 1 whether it is torn (1 or 0), 3 who has it, NONE, 4 its lane, NONE");
        Windlane field = Fields.inShed(DELTA, 10, 5);
        Check.due("who has it in the shed", field.about(0, 3), Windlane.NONE);
        field.lend(0, 0);
        Check.due("who has it", field.about(0, 3), 0);
        Check.due("its lane on the ground", field.about(0, 4), Windlane.NONE);
        field.wind(8, 0);
        field.fly(0, 0, 10);
        Check.due("its lane", field.about(0, 4), 0);
        Check.due("torn", field.about(0, 1), 0);
        field.wind(30, 0);
        Check.due("torn by wind", field.about(0, 1), 1);
        Check.due("its lane then", field.about(0, 4), Windlane.NONE);
        field.giveBack(0);
        Check.due("who has it at last", field.about(0, 3), Windlane.NONE);
    }

    private static void laneTellsKiteZeroFromNone() {
        Check.sentence("Promise 17: Returns the kite in a lane; NONE without one");
        Windlane field = eightFlying(10);
        for (int lane = 0; lane <= 9; lane++) {
            Check.due("lane " + lane, field.lane(lane), lane < 8 ? lane : Windlane.NONE);
        }
    }

    private static void calledIsNotOfTheLanded() {
        Check.sentence("Promise 18: Returns how many kites were called down so far");
        Windlane field = Fields.flying();
        Check.due("none yet", field.called(), 0);
        field.land(0);
        Check.due("a kite that landed", field.called(), 0);
        for (int round = 1; round <= 20; round++) {
            field.wind(8, 0);
            field.fly(0, 0, 10);
            field.wind(3, 0);
            Check.due("called", field.called(), round);
        }
    }
}
