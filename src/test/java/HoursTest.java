/** Promises 10 and 11: rain, pass. */
public final class HoursTest {
    public static void main(String[] args) {
        rainTellsWhetherItDid();
        passRefusesWhatIsOutOfRange();
        withoutRainNothingGetsWet();
        rainWetsWhatFliesAlone();
        wetIsSixAsTheHourIsOver();
        wetKitesDryEverywhereElse();
        flyingWithoutRainDries();
        passCountsWetKitesWhereverTheyAre();
        whatIsCalledDownDries();
        Check.finish();
    }

    private static int flyingKite(Windlane field, int lane) {
        int kite = Check.lentKite(field, Windlane.DELTA, 10, 5);
        field.wind(8, 0);
        field.fly(kite, lane, 10);
        return kite;
    }

    private static void rainTellsWhetherItDid() {
        Windlane field = new Windlane();
        boolean[] told = {false, true, true, false, false, true};
        boolean before = false;
        for (boolean is : told) {
            Check.isTrue("rain(" + is + ") did not tell " + before, field.rain(is) == before);
            before = is;
        }
    }

    private static void passRefusesWhatIsOutOfRange() {
        Windlane field = new Windlane();
        int kite = flyingKite(field, 0);
        field.rain(true);
        for (int bad : new int[] {0, 25, -1, Integer.MIN_VALUE, Integer.MAX_VALUE}) {
            Check.refuses(field, "pass out of range", Check.RANGE, () -> field.pass(bad));
        }
        Check.due("dry yet", field.about(kite, 2), 0);
        Check.due("pass of 1", field.pass(1), 1);
        Check.due("pass of 24", field.pass(24), 1);
        field.rain(false);
        Check.due("pass of 24 without rain", field.pass(24), 0);
    }

    private static void withoutRainNothingGetsWet() {
        Windlane field = new Windlane();
        int kite = flyingKite(field, 0);
        Check.due("pass", field.pass(24), 0);
        Check.due("wet", field.about(kite, 2), 0);
    }

    private static void rainWetsWhatFliesAlone() {
        Windlane field = new Windlane();
        int flying = flyingKite(field, 3);
        int lent = Check.lentKite(field, 0, 10, 5);
        int inShed = field.kite(0, 10, 5);
        field.rain(true);
        Check.due("rain alone wets", field.about(flying, 2), 0);
        Check.due("pass", field.pass(3), 1);
        Check.due("the flying one", field.about(flying, 2), 6);
        Check.due("the lent one", field.about(lent, 2), 0);
        Check.due("the one in the shed", field.about(inShed, 2), 0);
    }

    private static void wetIsSixAsTheHourIsOver() {
        Windlane field = new Windlane();
        int kite = flyingKite(field, 3);
        field.rain(true);
        for (int hours = 1; hours <= 8; hours++) {
            field.pass(hours);
            Check.due("wet while it flies in rain", field.about(kite, 2), 6);
        }
        field.rain(false);
        field.pass(4);
        Check.due("wet", field.about(kite, 2), 2);
        field.rain(true);
        field.pass(1);
        Check.due("wet anew", field.about(kite, 2), 6);
    }

    private static void wetKitesDryEverywhereElse() {
        Windlane field = new Windlane();
        int kite = flyingKite(field, 3);
        field.rain(true);
        field.pass(2);
        field.land(kite);
        Check.due("pass on the ground in rain", field.pass(1), 1);
        Check.due("wet", field.about(kite, 2), 5);
        field.giveBack(0);
        Check.due("pass in the shed", field.pass(2), 1);
        Check.due("wet in the shed", field.about(kite, 2), 3);
        field.rain(false);
        Check.due("pass in the shed without rain", field.pass(2), 1);
        Check.due("wet at last", field.about(kite, 2), 1);
        Check.due("the last hour", field.pass(1), 0);
        Check.due("dry", field.about(kite, 2), 0);
        Check.due("an hour more", field.pass(1), 0);
        Check.due("still dry", field.about(kite, 2), 0);
    }

    private static void flyingWithoutRainDries() {
        Windlane field = new Windlane();
        int kite = flyingKite(field, 3);
        field.rain(true);
        field.pass(1);
        field.rain(false);
        for (int hours = 5; hours >= 1; hours--) {
            Check.due("pass", field.pass(1), 1);
            Check.due("wet", field.about(kite, 2), hours);
        }
        Check.due("pass at last", field.pass(1), 0);
    }

    private static void passCountsWetKitesWhereverTheyAre() {
        Windlane field = new Windlane();
        for (int i = 0; i < 8; i++) {
            flyingKite(field, i + 1);
        }
        field.rain(true);
        Check.due("pass", field.pass(1), 8);
        field.land(0);
        field.giveBack(0);
        field.land(7);
        Check.due("pass with some down", field.pass(5), 8);
        Check.due("pass with those dry", field.pass(1), 6);
        field.wind(0, 0);
        Check.due("pass with all down", field.pass(5), 6);
        Check.due("pass with all dry", field.pass(1), 0);
    }

    private static void whatIsCalledDownDries() {
        Windlane field = new Windlane();
        int kite = flyingKite(field, 3);
        field.rain(true);
        field.pass(1);
        field.wind(30, 0);
        Check.due("pass", field.pass(1), 1);
        Check.due("wet", field.about(kite, 2), 5);
        Check.due("patch of a wet kite", field.patch(kite), 7);
        Check.due("wet after patch", field.about(kite, 2), 5);
    }
}
