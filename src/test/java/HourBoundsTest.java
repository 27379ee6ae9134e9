/** The bounds that 'Hours' names, and those of promises 10 and 11, a sentence each. */
public final class HourBoundsTest {
    public static void main(String[] args) {
        rainTellsWhetherItDid();
        rainGoesOnUntilItIsTold();
        hoursAreOneToTwentyFour();
        rainIsNothingBeforeAnHourIsOver();
        wetIsForSixHours();
        wetIsSixAfterAnyHours();
        wetIsSixAnew();
        wetOnTheGroundInRainIsAnHourLess();
        wetFlyingWithoutRainIsAnHourLess();
        dryStaysDry();
        dryOnTheGroundInRainStaysDry();
        manyHoursAreAsManyOfOne();
        passReturnsTheWet();
        Check.finish();
    }

    private static Windlane flyingInRain() {
        Windlane field = Fields.flying();
        field.rain(true);
        return field;
    }

    private static void rainTellsWhetherItDid() {
        Check.sentence("Promise 10: Lets it rain, or not; returns whether it did");
        Windlane field = new Windlane();
        boolean[] told = {false, true, true, false, false, true, false};
        boolean before = false;
        for (boolean is : told) {
            Check.isTrue("rain(" + is + ") did not tell " + before, field.rain(is) == before);
            before = is;
        }
    }

    private static void rainGoesOnUntilItIsTold() {
        Check.sentence("Promise 10: Lets it rain, or not; nothing else does");
        Windlane field = flyingInRain();
        field.pass(24);
        field.wind(0, 0);
        field.giveBack(0);
        Check.isTrue("it rained no more", field.rain(false));
        field.wind(8, 4);
        field.pass(24);
        Check.isTrue("it rained again", !field.rain(true));
    }

    private static void hoursAreOneToTwentyFour() {
        Check.sentence("Promise 11: hours: 1 to 24");
        for (int bad : Check.outside(1, 24)) {
            Check.refused("pass of " + bad, Check.RANGE, HourBoundsTest::flyingInRain, field -> field.pass(bad));
            Check.refused("pass of " + bad, Check.RANGE, () -> Fields.wet(6), field -> field.pass(bad));
        }
        Check.due("pass of 1", flyingInRain().pass(1), 1);
        Check.due("pass of 24", flyingInRain().pass(24), 1);
        Check.due("pass of 24 on the ground", Fields.wet(6).pass(24), 0);
        Check.due("pass of 24 without kites", new Windlane().pass(24), 0);
    }

    private static void rainIsNothingBeforeAnHourIsOver() {
        Check.sentence("kites that fly in an hour that goes by are wet, as it is over");
        Windlane field = flyingInRain();
        Check.due("wet before", field.about(0, 2), 0);
        field.rain(false);
        Check.due("pass", field.pass(1), 0);
        field.rain(true);
        field.land(0);
        Check.due("pass on the ground", field.pass(1), 0);
    }

    private static void wetIsForSixHours() {
        Check.sentence("kites that fly in an hour that goes by are wet for 6 hours");
        Windlane field = flyingInRain();
        Check.due("pass", field.pass(1), 1);
        Check.due("wet", field.about(0, 2), 6);
        field.land(0);
        field.giveBack(0);
        Check.due("5 hours on", field.pass(5), 1);
        Check.due("wet", field.about(0, 2), 1);
        Check.throwsIt("lend", Check.STATE, () -> field.lend(0, 0));
        Check.due("6 hours on", field.pass(1), 0);
        Check.due("wet", field.about(0, 2), 0);
        field.lend(0, 0);
        Check.due("who has it", field.about(0, 3), 0);
    }

    private static void wetIsSixAfterAnyHours() {
        Check.sentence("are wet for 6 hours, as it is over; hours in rain are not added up");
        for (int hours = 1; hours <= 24; hours++) {
            Windlane field = flyingInRain();
            field.pass(hours);
            Check.due("wet after " + hours, field.about(0, 2), 6);
        }
    }

    private static void wetIsSixAnew() {
        Check.sentence("are wet for 6 hours, whether they were wet or not");
        for (int hours = 0; hours <= 6; hours++) {
            Windlane field = Fields.wet(hours);
            field.fly(0, 0, 10);
            field.rain(true);
            Check.due("pass", field.pass(1), 1);
            Check.due("wet anew, from " + hours, field.about(0, 2), 6);
        }
    }

    private static void wetOnTheGroundInRainIsAnHourLess() {
        Check.sentence("all others that are wet are so for an hour less");
        for (int hours = 1; hours <= 6; hours++) {
            Windlane lent = Fields.wet(hours);
            lent.rain(true);
            Check.due("pass", lent.pass(1), hours > 1 ? 1 : 0);
            Check.due("wet with a borrower in rain", lent.about(0, 2), hours - 1);
            Windlane inShed = Fields.wet(hours);
            inShed.giveBack(0);
            inShed.rain(true);
            Check.due("pass", inShed.pass(1), hours > 1 ? 1 : 0);
            Check.due("wet in the shed in rain", inShed.about(0, 2), hours - 1);
        }
    }

    private static void wetFlyingWithoutRainIsAnHourLess() {
        Check.sentence("those that fly without rain with them");
        for (int hours = 1; hours <= 6; hours++) {
            Windlane field = Fields.wet(hours);
            field.fly(0, 0, 10);
            Check.due("pass", field.pass(1), hours > 1 ? 1 : 0);
            Check.due("wet", field.about(0, 2), hours - 1);
        }
    }

    private static void dryStaysDry() {
        Check.sentence("all others that are wet are so for an hour less; never below 0");
        Windlane flying = Fields.flying();
        Check.due("pass", flying.pass(24), 0);
        Check.due("wet", flying.about(0, 2), 0);
        Windlane field = Fields.wet(6);
        Check.due("pass", field.pass(7), 0);
        Check.due("wet", field.about(0, 2), 0);
    }

    private static void dryOnTheGroundInRainStaysDry() {
        Check.sentence("When it rains, kites that fly are wet; others are not");
        Windlane field = Fields.ready();
        field.kite(Windlane.SLED, 1, 1);
        field.rain(true);
        Check.due("pass", field.pass(24), 0);
        Check.due("wet with a borrower", field.about(0, 2), 0);
        Check.due("wet in the shed", field.about(1, 2), 0);
    }

    private static void manyHoursAreAsManyOfOne() {
        Check.sentence("Promise 11: Lets hours go by");
        for (int hours = 1; hours <= 6; hours++) {
            Windlane once = Fields.wet(6);
            Windlane singly = Fields.wet(6);
            int count = once.pass(hours);
            for (int hour = 1; hour < hours; hour++) {
                singly.pass(1);
            }
            Check.due("pass", singly.pass(1), count);
            Check.due("wet after " + hours, once.about(0, 2), 6 - hours);
            Check.due("wet after as many of one", singly.about(0, 2), 6 - hours);
        }
    }

    private static void passReturnsTheWet() {
        Check.sentence("Promise 11: Returns how many kites are wet then");
        Windlane field = new Windlane();
        field.wind(8, 0);
        field.rain(true);
        for (int i = 0; i < 8; i++) {
            Check.due("pass with kites in the air", field.pass(1), i);
            field.kite(Windlane.DELTA, 10, 5);
            field.lend(i, field.borrower(1));
            field.fly(i, i + 1, 10);
        }
        Check.due("pass with all 8 in the air", field.pass(1), 8);
        field.land(0);
        field.land(7);
        Check.due("5 hours with two landed", field.pass(5), 8);
        Check.due("6 hours with two landed", field.pass(1), 6);
        Check.due("all called down", field.wind(30, 0), 6);
        Check.due("5 hours with all torn", field.pass(5), 6);
        Check.due("6 hours with all torn", field.pass(1), 0);
    }
}
