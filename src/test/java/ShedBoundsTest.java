/** The bounds that 'Shed' names, and those of promises 4 to 6, a sentence each. */
public final class ShedBoundsTest {
    private static final int DELTA = Windlane.DELTA, BOX = Windlane.BOX, SLED = Windlane.SLED;

    public static void main(String[] args) {
        borrowersAreNumberedFromZero();
        aNinthBorrowerIsRefused();
        skillIsOneToThree();
        skillIsAboveTheKind();
        skillIsNotAboveTheKind();
        lendIsToOneWhoHasNone();
        lendIsOutOfTheShed();
        lendIsNotOfTheTorn();
        lendIsNotOfTheWet();
        lendIsAgainAfterGiveBack();
        lendIsOfAllEight();
        giveBackOfNothing();
        giveBackOfAFlyingKite();
        giveBackWetOrNotTornOrNot();
        giveBackReturnsTheKite();
        Check.finish();
    }

    private static void borrowersAreNumberedFromZero() {
        Check.sentence("Borrowers are numbered from 0, at most 8");
        Windlane field = new Windlane();
        for (int number = 0; number < 8; number++) {
            Check.due("borrower", field.borrower(1), number);
            field.kite(DELTA, 1, 1);
        }
        for (int number = 0; number < 8; number++) {
            field.lend(number, 7 - number);
            Check.due("who has it", field.about(number, 3), 7 - number);
        }
    }

    private static void aNinthBorrowerIsRefused() {
        Check.sentence("Promise 4: Throws IllegalStateException if there are 8");
        for (int skill = 1; skill <= 3; skill++) {
            int taken = skill;
            Check.refused("the ninth borrower", Check.STATE, Fields::full, field -> field.borrower(taken));
        }
    }

    private static void skillIsOneToThree() {
        Check.sentence("Promise 4: skill: 1 to 3");
        for (int bad : Check.outside(1, 3)) {
            Check.refused("skill " + bad, Check.RANGE, Fields::ready, field -> field.borrower(bad));
        }
        for (int skill = 1; skill <= 3; skill++) {
            Check.due("skill " + skill, new Windlane().borrower(skill), 0);
        }
    }

    private static Windlane skilled(int kind, int skill) {
        Windlane field = new Windlane();
        field.kite(kind, 10, 5);
        field.borrower(skill);
        return field;
    }

    private static void skillIsAboveTheKind() {
        Check.sentence("A kite is lent to a borrower whose skill is above its kind");
        int[][] rows = {{DELTA, 1}, {DELTA, 2}, {DELTA, 3}, {BOX, 2}, {BOX, 3}, {SLED, 3}};
        for (int[] row : rows) {
            Windlane field = skilled(row[0], row[1]);
            field.lend(0, 0);
            Check.due("who has kind " + row[0], field.about(0, 3), 0);
        }
    }

    private static void skillIsNotAboveTheKind() {
        Check.sentence("Promise 5: Throws IllegalStateException if it cannot be lent, by its kind");
        for (int[] row : new int[][] {{BOX, 1}, {SLED, 1}, {SLED, 2}}) {
            Check.refused("lend of kind " + row[0] + " to skill " + row[1], Check.STATE,
                () -> skilled(row[0], row[1]), field -> field.lend(0, 0));
        }
    }

    /** Kite 0 is with borrower 0; kite 1 is in the shed, and borrower 1 has none. */
    private static Windlane oneLentOfTwo() {
        Windlane field = Fields.ready();
        field.kite(DELTA, 10, 5);
        field.borrower(3);
        return field;
    }

    private static void lendIsToOneWhoHasNone() {
        Check.sentence("A kite is lent to a borrower who has none");
        Check.refused("lend to one who has one", Check.STATE, ShedBoundsTest::oneLentOfTwo, field -> field.lend(1, 0));
        Windlane field = oneLentOfTwo();
        field.lend(1, 1);
        Check.due("who has it", field.about(1, 3), 1);
    }

    private static void lendIsOutOfTheShed() {
        Check.sentence("A kite is lent, if it is in the shed");
        Check.refused("lend of a lent kite", Check.STATE, ShedBoundsTest::oneLentOfTwo, field -> field.lend(0, 1));
        Check.refused("lend to who has it", Check.STATE, ShedBoundsTest::oneLentOfTwo, field -> field.lend(0, 0));
        Check.refused("lend of a flying kite", Check.STATE, ShedBoundsTest::oneFlyingOfTwo, field -> field.lend(0, 1));
    }

    private static Windlane oneFlyingOfTwo() {
        Windlane field = oneLentOfTwo();
        field.fly(0, 0, 10);
        return field;
    }

    private static Windlane tornInShed() {
        Windlane field = Fields.torn();
        field.giveBack(0);
        return field;
    }

    private static void lendIsNotOfTheTorn() {
        Check.sentence("A kite is lent, if it is neither torn");
        Check.refused("lend of a torn kite", Check.STATE, ShedBoundsTest::tornInShed, field -> field.lend(0, 0));
        Windlane field = tornInShed();
        field.patch(0);
        field.lend(0, 0);
        Check.due("who has the patched", field.about(0, 3), 0);
    }

    private static Windlane wetInShed(int hours) {
        Windlane field = Fields.wet(hours);
        field.giveBack(0);
        return field;
    }

    private static void lendIsNotOfTheWet() {
        Check.sentence("A kite is lent, if it is nor wet");
        for (int hours = 1; hours <= 6; hours++) {
            int wet = hours;
            Check.due("wet", wetInShed(wet).about(0, 2), wet);
            Check.refused("lend of a wet kite", Check.STATE, () -> wetInShed(wet), field -> field.lend(0, 0));
        }
        Windlane field = wetInShed(0);
        field.lend(0, 0);
        Check.due("who has the dry", field.about(0, 3), 0);
    }

    private static void lendIsAgainAfterGiveBack() {
        Check.sentence("A kite is lent to a borrower who has none, again");
        Windlane field = oneLentOfTwo();
        Check.due("giveBack", field.giveBack(0), 0);
        field.lend(1, 0);
        field.lend(0, 1);
        Check.due("who has 0", field.about(0, 3), 1);
        Check.due("who has 1", field.about(1, 3), 0);
    }

    private static void lendIsOfAllEight() {
        Check.sentence("Promise 5: Lends a kite, the last to the last");
        Windlane field = new Windlane();
        for (int i = 0; i < 8; i++) {
            field.kite(SLED, 10, 5);
            field.borrower(3);
        }
        field.lend(7, 7);
        field.lend(0, 6);
        Check.due("who has 7", field.about(7, 3), 7);
        Check.due("who has 0", field.about(0, 3), 6);
        Check.due("giveBack", field.giveBack(7), 7);
    }

    private static void giveBackOfNothing() {
        Check.sentence("Promise 6: Throws IllegalStateException if the borrower has none");
        Check.refused("giveBack of one who never had one", Check.STATE, ShedBoundsTest::oneLentOfTwo,
            field -> field.giveBack(1));
        Check.refused("giveBack again", Check.STATE, () -> wetInShed(3), field -> field.giveBack(0));
    }

    private static void giveBackOfAFlyingKite() {
        Check.sentence("Promise 6: Throws IllegalStateException if it is flying");
        for (int lane = 0; lane <= 9; lane++) {
            int flown = lane;
            Check.refused("giveBack out of lane " + lane, Check.STATE, () -> flyingIn(flown),
                field -> field.giveBack(0));
        }
        Check.refused("giveBack, flying and wet", Check.STATE, ShedBoundsTest::flyingAndWet,
            field -> field.giveBack(0));
    }

    private static Windlane flyingIn(int lane) {
        Windlane field = Fields.ready();
        field.fly(0, lane, 10);
        return field;
    }

    private static Windlane flyingAndWet() {
        Windlane field = Fields.wet(4);
        field.fly(0, 0, 10);
        return field;
    }

    private static void giveBackWetOrNotTornOrNot() {
        Check.sentence("A borrower gives it back, wet or not, torn or not, when it is not flying");
        Check.due("dry and whole", Fields.ready().giveBack(0), 0);
        Check.due("wet and whole", Fields.wet(6).giveBack(0), 0);
        Check.due("dry and torn", Fields.torn().giveBack(0), 0);
        Windlane field = Fields.wet(6);
        Fields.tear(field);
        Check.due("wet", field.about(0, 2), 6);
        Check.due("torn", field.about(0, 1), 1);
        Check.due("wet and torn", field.giveBack(0), 0);
        Check.due("wet in the shed", field.about(0, 2), 6);
        Check.due("torn in the shed", field.about(0, 1), 1);
    }

    private static void giveBackReturnsTheKite() {
        Check.sentence("Promise 6: Returns the kite");
        Windlane field = new Windlane();
        for (int i = 0; i < 8; i++) {
            field.kite(DELTA, 10, 5);
            field.borrower(1);
        }
        field.lend(7, 0);
        field.lend(0, 7);
        Check.due("giveBack", field.giveBack(0), 7);
        Check.due("giveBack of the last", field.giveBack(7), 0);
        Check.due("who has it", field.about(7, 3), Windlane.NONE);
    }
}
