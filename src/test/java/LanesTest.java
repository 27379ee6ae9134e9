/** Promises 7 to 9 and 18: fly, land, wind, called. */
public final class LanesTest {
    public static void main(String[] args) {
        flyReturnsTheEnd();
        flyTakesTheEdges();
        flyRefusesWhatIsOutOfRange();
        flyNamesTheFirstException();
        flyRefusesWhatIsNotReady();
        flyNeedsAPullThatHolds();
        flyRefusesTakenLanes();
        flyRefusesLinesThatCross();
        flyRefusesCrossingFarLanes();
        flyTakesWetKites();
        landFreesTheLane();
        landRefuses();
        windRefusesWhatIsOutOfRange();
        windTakesTheEdges();
        windCallsDownWhatDoesNotHold();
        windCallsDownTheUnheldFirst();
        windCallsDownTheWeakerOfTwo();
        windCallsDownTheHigherOfAlikePulls();
        windTakesTheLowestOtherLaneFirst();
        windTakesTheLowestLaneFirst();
        windCountsEqualEndsAsCrossing();
        windCallsDownAgainstTheLanes();
        calledCountsAllThatWereCalledDown();
        Check.finish();
    }

    /** A SLED whose pull is this, a multiple of 100 up to 1500, in a wind of 10 or more. */
    private static int sledOfPull(Windlane field, int pull) {
        int kite = Check.lentKite(field, Windlane.SLED, 2, (1600 - pull) / 100);
        Check.due("pull of the sled", field.pull(kite, 10), pull);
        return kite;
    }

    private static void flyReturnsTheEnd() {
        int[][] rows = {{2, 50, 4, 254}, {2, 50, -4, 146}, {0, 50, -4, -54}, {0, 50, 4, 54}, {9, 100, 5, 1035},
            {9, 100, -5, 765}, {0, 10, 0, 0}, {7, 100, 0, 700}, {1, 10, 1, 102}, {1, 10, -1, 98}};
        for (int[] row : rows) {
            Windlane field = new Windlane();
            int kite = Check.lentKite(field, Windlane.DELTA, 10, 5);
            field.wind(8, row[2]);
            Check.due("fly", field.fly(kite, row[0], row[1]), row[3]);
            Check.due("end", field.about(kite, 5), row[3]);
            Check.due("its lane", field.about(kite, 4), row[0]);
            Check.due("lane", field.lane(row[0]), kite);
            Check.due("who has it", field.about(kite, 3), 0);
        }
        // 475000 / 2200 is 215.9: near enough to the next number to tell 1000 from 1001.
        Windlane field = new Windlane();
        int kite = sledOfPull(field, 1200);
        field.wind(10, 5);
        Check.due("fly", field.fly(kite, 3, 95), 515);
        Check.due("wind", field.wind(10, -5), 0);
        Check.due("end, rounded towards 0 before the lane is added", field.about(kite, 5), 85);
    }

    private static void flyTakesTheEdges() {
        for (int lane : new int[] {0, 9}) {
            for (int length : new int[] {10, 100}) {
                Windlane field = new Windlane();
                int kite = Check.lentKite(field, Windlane.DELTA, 10, 5);
                field.wind(8, 1);
                Check.due("fly", field.fly(kite, lane, length), 100 * lane + length * 1000 / 3700);
            }
        }
    }

    private static void flyRefusesWhatIsOutOfRange() {
        for (int bad : new int[] {-1, 1, 8, Integer.MIN_VALUE, Integer.MAX_VALUE}) {
            flyRefuses(Check.INDEX, bad, 0, 50);
        }
        for (int bad : new int[] {-1, 10, Integer.MIN_VALUE, Integer.MAX_VALUE}) {
            flyRefuses(Check.INDEX, 0, bad, 50);
        }
        for (int bad : new int[] {9, 101, 0, -10, Integer.MIN_VALUE, Integer.MAX_VALUE}) {
            flyRefuses(Check.RANGE, 0, 0, bad);
        }
    }

    private static void flyRefuses(Class<?> want, int kite, int lane, int length) {
        Windlane field = new Windlane();
        int ready = Check.lentKite(field, Windlane.DELTA, 10, 5);
        field.wind(8, 0);
        Check.refuses(field, "fly out of range", want, () -> field.fly(kite, lane, length));
        Check.due("fly after a refusal", field.fly(ready, 0, 50), 0);
    }

    private static void flyNamesTheFirstException() {
        Windlane field = new Windlane();
        int kite = field.kite(0, 10, 5);
        Check.refuses(field, "no kite, bad length", Check.INDEX, () -> field.fly(1, 0, 9));
        Check.refuses(field, "no lane, bad length", Check.INDEX, () -> field.fly(kite, 10, 9));
        Check.refuses(field, "no lane, not lent", Check.INDEX, () -> field.fly(kite, 10, 10));
        Check.refuses(field, "bad length, not lent", Check.RANGE, () -> field.fly(kite, 0, 9));
        Check.refuses(field, "not lent", Check.STATE, () -> field.fly(kite, 0, 10));
    }

    private static void flyRefusesWhatIsNotReady() {
        Windlane field = new Windlane();
        int kite = field.kite(0, 20, 5);
        field.borrower(1);
        field.wind(5, 0);
        Check.refuses(field, "fly from the shed", Check.STATE, () -> field.fly(kite, 0, 10));
        field.lend(kite, 0);
        field.fly(kite, 0, 10);
        Check.refuses(field, "fly of a flying kite", Check.STATE, () -> field.fly(kite, 1, 10));
        Check.refuses(field, "fly of a flying kite in its lane", Check.STATE, () -> field.fly(kite, 0, 10));
        field.wind(30, 0);
        field.wind(5, 0);
        Check.due("torn", field.about(kite, 1), 1);
        Check.refuses(field, "fly of a torn kite", Check.STATE, () -> field.fly(kite, 0, 10));
        field.patch(kite);
        Check.due("fly of a patched kite", field.fly(kite, 0, 10), 0);
        field.land(kite);
        field.giveBack(0);
        Check.refuses(field, "fly after giveBack", Check.STATE, () -> field.fly(kite, 0, 10));
    }

    private static void flyNeedsAPullThatHolds() {
        // kind, area, weight, speed, pull
        int[][] rows = {{0, 20, 3, 2, 100}, {0, 11, 4, 3, 95}, {2, 20, 20, 5, 6000}, {0, 9, 16, 13, 6005}};
        for (int[] row : rows) {
            Windlane field = new Windlane();
            int kite = Check.lentKite(field, row[0], row[1], row[2]);
            field.wind(row[3], 0);
            Check.due("pull", field.pull(kite, row[3]), row[4]);
            if (row[4] >= 100 && row[4] <= 6000) {
                Check.due("fly", field.fly(kite, 4, 10), 400);
            } else {
                Check.refuses(field, "fly of a kite that does not hold", Check.STATE, () -> field.fly(kite, 4, 10));
            }
        }
        Windlane still = new Windlane();
        int kite = Check.lentKite(still, 2, 20, 1);
        Check.refuses(still, "fly without wind", Check.STATE, () -> still.fly(kite, 0, 10));
    }

    private static void flyRefusesTakenLanes() {
        Windlane field = new Windlane();
        int one = Check.lentKite(field, 0, 10, 5);
        int other = Check.lentKite(field, 0, 10, 5);
        field.wind(8, 0);
        field.fly(one, 9, 10);
        Check.refuses(field, "fly in a taken lane", Check.STATE, () -> field.fly(other, 9, 100));
        field.fly(other, 8, 100);
        Check.due("lane 9", field.lane(9), one);
        Check.due("lane 8", field.lane(8), other);
    }

    private static void flyRefusesLinesThatCross() {
        Windlane field = new Windlane();
        int weak = Check.lentKite(field, Windlane.DELTA, 4, 4);
        int strong = Check.lentKite(field, Windlane.SLED, 20, 20);
        field.wind(5, 5);
        Check.due("weak", field.fly(weak, 0, 24), 109);
        Check.refuses(field, "fly to the same end", Check.STATE, () -> field.fly(strong, 1, 13));
        Check.due("strong", field.fly(strong, 1, 14), 110);
        field.land(weak);
        Check.refuses(field, "fly from below over it", Check.STATE, () -> field.fly(weak, 0, 25));
        Check.due("weak again", field.fly(weak, 0, 24), 109);
        field.land(strong);
        field.land(weak);
        Check.due("strong in the second lane", field.fly(strong, 1, 13), 109);
        Check.refuses(field, "fly from below to the same end", Check.STATE, () -> field.fly(weak, 0, 24));
        Check.due("weak, shorter", field.fly(weak, 0, 23), 104);
    }

    private static void flyRefusesCrossingFarLanes() {
        Windlane field = new Windlane();
        int weak = Check.lentKite(field, Windlane.DELTA, 4, 4);
        int strong = Check.lentKite(field, Windlane.SLED, 20, 20);
        field.wind(5, 5);
        Check.due("weak", field.fly(weak, 0, 100), 454);
        Check.refuses(field, "fly far, crossed", Check.STATE, () -> field.fly(strong, 4, 75));
        Check.refuses(field, "fly far, to the same end", Check.STATE, () -> field.fly(strong, 4, 76));
        Check.due("strong", field.fly(strong, 4, 77), 455);
    }

    private static void flyTakesWetKites() {
        Windlane field = new Windlane();
        int kite = Check.lentKite(field, 0, 10, 5);
        field.wind(8, 0);
        field.fly(kite, 0, 10);
        field.rain(true);
        field.pass(1);
        field.land(kite);
        Check.due("wet", field.about(kite, 2), 6);
        Check.due("fly of a wet kite", field.fly(kite, 1, 10), 100);
    }

    private static void landFreesTheLane() {
        Windlane field = new Windlane();
        int one = Check.lentKite(field, 0, 10, 5);
        int other = Check.lentKite(field, 0, 10, 5);
        field.wind(8, 3);
        field.fly(one, 9, 10);
        field.fly(other, 0, 10);
        Check.due("land", field.land(one), 9);
        Check.due("land in lane 0", field.land(other), 0);
        Check.due("lane 9", field.lane(9), Windlane.NONE);
        Check.due("its lane", field.about(one, 4), Windlane.NONE);
        Check.due("its end", field.about(one, 5), Windlane.NONE);
        Check.due("who has it", field.about(one, 3), 0);
        Check.due("torn", field.about(one, 1), 0);
        Check.due("called", field.called(), 0);
        Check.due("fly in the freed lane", field.fly(other, 9, 10), 908);
        Check.due("wind that has nothing to call down", field.wind(0, 0), 1);
    }

    private static void landRefuses() {
        Windlane field = new Windlane();
        int kite = Check.lentKite(field, 0, 10, 5);
        Check.refuses(field, "land of a kite on the ground", Check.STATE, () -> field.land(kite));
        field.wind(8, 0);
        field.fly(kite, 0, 10);
        for (int bad : new int[] {-1, 1, 8, Integer.MIN_VALUE, Integer.MAX_VALUE}) {
            Check.refuses(field, "land of no kite", Check.INDEX, () -> field.land(bad));
        }
        field.land(kite);
        Check.refuses(field, "land again", Check.STATE, () -> field.land(kite));
        field.fly(kite, 0, 10);
        field.wind(0, 0);
        Check.refuses(field, "land of a kite called down", Check.STATE, () -> field.land(kite));
    }

    private static void windRefusesWhatIsOutOfRange() {
        Windlane field = new Windlane();
        int kite = Check.lentKite(field, 0, 10, 5);
        field.wind(8, 2);
        field.fly(kite, 3, 50);
        int[][] bad = {{-1, 0}, {31, 0}, {8, -6}, {8, 6}, {-1, 6}, {Integer.MIN_VALUE, 0}, {Integer.MAX_VALUE, 0},
            {8, Integer.MIN_VALUE}, {8, Integer.MAX_VALUE}};
        for (int[] row : bad) {
            Check.refuses(field, "wind out of range", Check.RANGE, () -> field.wind(row[0], row[1]));
        }
        Check.due("its end", field.about(kite, 5), 327);
    }

    private static void windTakesTheEdges() {
        Windlane field = new Windlane();
        int kite = Check.lentKite(field, Windlane.SLED, 2, 6);
        Check.due("wind of 30", field.wind(30, 5), 0);
        Check.due("fly", field.fly(kite, 5, 100), 750);
        Check.due("wind of -5", field.wind(30, -5), 0);
        Check.due("its end", field.about(kite, 5), 250);
        Check.due("wind of nothing", field.wind(0, -5), 1);
        Check.due("tension", field.tension(kite), Float.floatToIntBits(-3f));
    }

    private static void windCallsDownWhatDoesNotHold() {
        // kind, area, weight, the speed it flies at, the speed told, its pull then, torn
        int[][] rows = {{0, 20, 3, 3, 2, 100, 0}, {0, 11, 4, 4, 3, 95, 0}, {2, 20, 20, 4, 5, 6000, 0},
            {0, 9, 16, 12, 13, 6005, 1}, {0, 20, 5, 5, 30, 89500, 1}, {1, 20, 5, 3, 0, -500, 0}};
        for (int[] row : rows) {
            Windlane field = new Windlane();
            int kite = Check.lentKite(field, row[0], row[1], row[2]);
            field.wind(row[3], 0);
            field.fly(kite, 6, 10);
            boolean holds = row[5] >= 100 && row[5] <= 6000;
            Check.due("called down", field.wind(row[4], 0), holds ? 0 : 1);
            Check.due("pull", field.pull(kite, row[4]), row[5]);
            Check.due("torn", field.about(kite, 1), row[6]);
            Check.due("its lane", field.about(kite, 4), holds ? 6 : Windlane.NONE);
            Check.due("lane", field.lane(6), holds ? kite : Windlane.NONE);
            Check.due("who has it", field.about(kite, 3), 0);
            Check.due("called", field.called(), holds ? 0 : 1);
            Check.due("called down by the same wind", field.wind(row[4], 0), 0);
        }
        Windlane field = new Windlane();
        int kite = Check.lentKite(field, 0, 20, 5);
        Check.due("wind over a kite on the ground", field.wind(30, 0), 0);
        Check.due("torn on the ground", field.about(kite, 1), 0);
    }

    private static void windCallsDownTheUnheldFirst() {
        Windlane field = new Windlane();
        int weak = Check.lentKite(field, Windlane.BOX, 2, 2);
        int torn = Check.lentKite(field, Windlane.SLED, 20, 1);
        field.wind(3, 0);
        field.fly(weak, 0, 100);
        field.fly(torn, 1, 10);
        Check.due("called down", field.wind(5, 5), 1);
        Check.due("torn", field.about(torn, 1), 1);
        Check.due("weak stays", field.lane(0), weak);
        Check.due("its end", field.about(weak, 5), 357);
        Check.due("lane 1", field.lane(1), Windlane.NONE);
    }

    private static void windCallsDownTheWeakerOfTwo() {
        for (int lower = 100; lower <= 900; lower += 800) {
            Windlane field = new Windlane();
            int low = sledOfPull(field, lower);
            int high = sledOfPull(field, 500);
            field.wind(10, 0);
            field.fly(low, 0, 100);
            field.fly(high, 1, 10);
            Check.due("called down", field.wind(10, 5), 1);
            Check.due("lane 0", field.lane(0), lower < 500 ? Windlane.NONE : low);
            Check.due("lane 1", field.lane(1), lower < 500 ? high : Windlane.NONE);
            Check.due("torn", field.about(low, 1) + field.about(high, 1), 0);
        }
    }

    private static void windCallsDownTheHigherOfAlikePulls() {
        Windlane field = new Windlane();
        int high = sledOfPull(field, 500);
        int low = sledOfPull(field, 500);
        int middle = sledOfPull(field, 500);
        field.wind(10, 0);
        field.fly(high, 3, 10);
        field.fly(low, 1, 100);
        field.fly(middle, 2, 40);
        Check.due("called down", field.wind(10, 5), 2);
        Check.due("lane 1", field.lane(1), low);
        Check.due("lane 2", field.lane(2), Windlane.NONE);
        Check.due("lane 3", field.lane(3), Windlane.NONE);
    }

    private static void windTakesTheLowestOtherLaneFirst() {
        Windlane field = new Windlane();
        int first = sledOfPull(field, 500);
        int second = sledOfPull(field, 100);
        int third = sledOfPull(field, 1000);
        field.wind(10, 0);
        field.fly(first, 0, 100);
        field.fly(second, 1, 10);
        field.fly(third, 2, 10);
        // The ends are 333, 145 and 225: the first brings the second down, then the third the first.
        Check.due("called down", field.wind(10, 5), 2);
        Check.due("lane 0", field.lane(0), Windlane.NONE);
        Check.due("lane 1", field.lane(1), Windlane.NONE);
        Check.due("lane 2", field.lane(2), third);
    }

    private static void windTakesTheLowestLaneFirst() {
        Windlane field = new Windlane();
        int first = sledOfPull(field, 100);
        int second = sledOfPull(field, 1000);
        int third = sledOfPull(field, 500);
        field.wind(10, 0);
        field.fly(first, 0, 60);
        field.fly(second, 1, 80);
        field.fly(third, 2, 10);
        // The ends are 272, 300 and 233: the third brings the first down, then the second the third.
        Check.due("called down", field.wind(10, 5), 2);
        Check.due("lane 0", field.lane(0), Windlane.NONE);
        Check.due("lane 1", field.lane(1), second);
        Check.due("lane 2", field.lane(2), Windlane.NONE);
    }

    private static void windCountsEqualEndsAsCrossing() {
        for (int length = 13; length <= 14; length++) {
            Windlane field = new Windlane();
            int weak = Check.lentKite(field, Windlane.DELTA, 4, 4);
            int strong = Check.lentKite(field, Windlane.SLED, 20, 20);
            field.wind(5, 0);
            field.fly(weak, 0, 24);
            field.fly(strong, 1, length);
            Check.due("called down", field.wind(5, 5), length == 13 ? 1 : 0);
            Check.due("lane 0", field.lane(0), length == 13 ? Windlane.NONE : weak);
            Check.due("lane 1", field.lane(1), strong);
        }
    }

    private static void windCallsDownAgainstTheLanes() {
        Windlane field = new Windlane();
        int strong = sledOfPull(field, 1500);
        int weak = sledOfPull(field, 100);
        int far = sledOfPull(field, 100);
        field.wind(10, 0);
        field.fly(strong, 4, 10);
        field.fly(weak, 8, 100);
        field.fly(far, 9, 10);
        // The ends are 380, 346 and 855.
        Check.due("called down", field.wind(30, -5), 1);
        Check.due("lane 4", field.lane(4), strong);
        Check.due("lane 8", field.lane(8), Windlane.NONE);
        Check.due("lane 9", field.lane(9), far);
        Check.due("end of the strong", field.about(strong, 5), 380);
        Check.due("end of the far", field.about(far, 5), 855);
    }

    private static void calledCountsAllThatWereCalledDown() {
        Windlane field = new Windlane();
        int first = sledOfPull(field, 500);
        int second = sledOfPull(field, 100);
        int third = Check.lentKite(field, Windlane.DELTA, 1, 3);
        for (int round = 1; round <= 5; round++) {
            field.wind(10, 0);
            field.fly(first, 0, 100);
            field.fly(second, 1, 10);
            field.fly(third, 9, 10);
            // The ends are 333, 145 and some 938; all three hold in 11, none in 0.
            Check.due("called down by crossing", field.wind(11, 5), 1);
            Check.due("called", field.called(), 3 * round - 2);
            Check.due("called down by calm", field.wind(0, 0), 2);
            Check.due("called then", field.called(), 3 * round);
        }
    }
}
