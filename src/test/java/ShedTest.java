/** Promises 1 to 6: a new object, kite, patch, borrower, lend, giveBack. */
public final class ShedTest {
    public static void main(String[] args) {
        aNewObjectIsEmpty();
        kitesAreNumbered();
        kiteRefusesWhatIsOutOfRange();
        thereAreEightKites();
        patchMakesWholeAndHeavier();
        patchRefusesWhatIsNotTorn();
        patchStopsAtForty();
        borrowersAreNumbered();
        lendGoesBySkill();
        lendRefusesWhoHasOneAndWhatIsAway();
        lendRefusesTornAndWet();
        lendRefusesWhatIsNotThere();
        giveBackReturnsTheKite();
        giveBackTakesWetAndTorn();
        giveBackRefuses();
        objectsAreApart();
        Check.finish();
    }

    private static void aNewObjectIsEmpty() {
        Windlane field = new Windlane();
        Check.due("called", field.called(), 0);
        for (int lane = 0; lane < 10; lane++) {
            Check.due("lane", field.lane(lane), Windlane.NONE);
        }
        Check.throwsIt("about without kites", Check.INDEX, () -> field.about(0, 0));
        Check.throwsIt("patch without kites", Check.INDEX, () -> field.patch(0));
        Check.throwsIt("giveBack without borrowers", Check.INDEX, () -> field.giveBack(0));
        Check.isTrue("it rains in a new object", !field.rain(false));
        int kite = field.kite(Windlane.DELTA, 1, 1);
        Check.due("tension without wind", field.tension(kite), Float.floatToIntBits(-1f));
        Check.due("wet kites", field.pass(1), 0);
    }

    private static void kitesAreNumbered() {
        Windlane field = new Windlane();
        int[][] edges = {{0, 1, 1}, {0, 20, 20}, {1, 1, 20}, {1, 20, 1}, {2, 1, 1}, {2, 20, 20}};
        for (int i = 0; i < edges.length; i++) {
            Check.due("kite", field.kite(edges[i][0], edges[i][1], edges[i][2]), i);
            Check.due("weight", field.about(i, 0), edges[i][2]);
            Check.due("torn", field.about(i, 1), 0);
            Check.due("wet", field.about(i, 2), 0);
            Check.due("who has it", field.about(i, 3), Windlane.NONE);
            Check.due("lane", field.about(i, 4), Windlane.NONE);
            Check.due("end", field.about(i, 5), Windlane.NONE);
        }
    }

    private static void kiteRefusesWhatIsOutOfRange() {
        Windlane field = new Windlane();
        int[][] bad = {{-1, 1, 1}, {3, 1, 1}, {0, 0, 1}, {0, 21, 1}, {0, -1, 1}, {0, 1, 0}, {0, 1, 21}, {0, 1, -1},
            {Integer.MIN_VALUE, 1, 1}, {Integer.MAX_VALUE, 1, 1}, {1, Integer.MIN_VALUE, 1},
            {1, Integer.MAX_VALUE, 1}, {2, 1, Integer.MIN_VALUE}, {2, 1, Integer.MAX_VALUE}};
        for (int[] row : bad) {
            Check.refuses(field, "kite out of range", Check.RANGE, () -> field.kite(row[0], row[1], row[2]));
        }
        Check.due("kite after refusals", field.kite(0, 1, 1), 0);
    }

    private static void thereAreEightKites() {
        Windlane field = new Windlane();
        for (int i = 0; i < 8; i++) {
            Check.due("kite", field.kite(i % 3, i + 1, i + 1), i);
        }
        Check.refuses(field, "ninth kite", Check.STATE, () -> field.kite(0, 1, 1));
        Check.refuses(field, "ninth kite out of range", Check.RANGE, () -> field.kite(0, 0, 1));
        Check.due("weight of the last", field.about(7, 0), 8);
        Check.throwsIt("about a ninth", Check.INDEX, () -> field.about(8, 0));
    }

    private static void patchMakesWholeAndHeavier() {
        Windlane field = new Windlane();
        int kite = Check.lentKite(field, Windlane.DELTA, 20, 5);
        Check.tear(field, kite, 5);
        Check.due("patch of a lent kite", field.patch(kite), 7);
        Check.due("torn", field.about(kite, 1), 0);
        Check.due("weight", field.about(kite, 0), 7);
        Check.due("pull", field.pull(kite, 5), 2500 - 700);
        Check.due("pullAnew", field.pullAnew(kite, 5), 2500 - 700);
        Check.due("who has it", field.about(kite, 3), 0);
        Check.tear(field, kite, 5);
        field.giveBack(0);
        Check.due("patch in the shed", field.patch(kite), 9);
        field.lend(kite, 0);
        field.wind(5, 0);
        Check.due("flies again", field.fly(kite, 3, 10), 300);
    }

    private static void patchRefusesWhatIsNotTorn() {
        Windlane field = new Windlane();
        int kite = Check.lentKite(field, Windlane.DELTA, 20, 5);
        Check.refuses(field, "patch of a whole kite", Check.STATE, () -> field.patch(kite));
        field.wind(5, 0);
        field.fly(kite, 0, 10);
        Check.refuses(field, "patch of a flying kite", Check.STATE, () -> field.patch(kite));
        field.wind(30, 0);
        field.patch(kite);
        Check.refuses(field, "patch of a patched kite", Check.STATE, () -> field.patch(kite));
        for (int bad : new int[] {-1, 1, 8, Integer.MIN_VALUE, Integer.MAX_VALUE}) {
            Check.refuses(field, "patch of no kite", Check.INDEX, () -> field.patch(bad));
        }
    }

    private static void patchStopsAtForty() {
        for (int weight = 19; weight <= 20; weight++) {
            Windlane field = new Windlane();
            int kite = Check.lentKite(field, Windlane.DELTA, 20, weight);
            for (int patched = weight + 2; patched <= 40; patched += 2) {
                Check.tear(field, kite, 7);
                Check.due("patch", field.patch(kite), patched);
            }
            Check.due("weight at last", field.about(kite, 0), weight + 20);
            Check.tear(field, kite, 8);
            Check.refuses(field, "patch above 40", Check.STATE, () -> field.patch(kite));
            Check.due("still torn", field.about(kite, 1), 1);
        }
    }

    private static void borrowersAreNumbered() {
        Windlane field = new Windlane();
        for (int bad : new int[] {0, 4, -1, Integer.MIN_VALUE, Integer.MAX_VALUE}) {
            Check.throwsIt("skill out of range", Check.RANGE, () -> field.borrower(bad));
        }
        for (int i = 0; i < 8; i++) {
            Check.due("borrower", field.borrower(1 + i % 3), i);
        }
        Check.throwsIt("ninth borrower", Check.STATE, () -> field.borrower(1));
        Check.throwsIt("ninth borrower out of range", Check.RANGE, () -> field.borrower(0));
        int kite = field.kite(Windlane.DELTA, 1, 1);
        field.lend(kite, 7);
        Check.due("who has it", field.about(kite, 3), 7);
    }

    private static void lendGoesBySkill() {
        for (int kind = 0; kind <= 2; kind++) {
            for (int skill = 1; skill <= 3; skill++) {
                Windlane field = new Windlane();
                int kite = field.kite(kind, 3, 3);
                int borrower = field.borrower(skill);
                if (skill > kind) {
                    field.lend(kite, borrower);
                    Check.due("who has it", field.about(kite, 3), borrower);
                    Check.due("lane of a kite lent", field.about(kite, 4), Windlane.NONE);
                } else {
                    Check.refuses(field, "lend to too little skill", Check.STATE, () -> field.lend(kite, borrower));
                }
            }
        }
    }

    private static void lendRefusesWhoHasOneAndWhatIsAway() {
        Windlane field = new Windlane();
        int first = field.kite(0, 10, 5);
        int second = field.kite(0, 10, 5);
        int one = field.borrower(3);
        int other = field.borrower(3);
        field.lend(first, one);
        Check.refuses(field, "lend to one who has a kite", Check.STATE, () -> field.lend(second, one));
        Check.refuses(field, "lend of a lent kite", Check.STATE, () -> field.lend(first, other));
        Check.refuses(field, "lend of the same again", Check.STATE, () -> field.lend(first, one));
        field.wind(8, 0);
        field.fly(first, 0, 10);
        Check.refuses(field, "lend of a flying kite", Check.STATE, () -> field.lend(first, other));
        field.land(first);
        Check.refuses(field, "lend of a landed kite", Check.STATE, () -> field.lend(first, other));
        Check.due("giveBack", field.giveBack(one), first);
        field.lend(second, one);
        field.lend(first, other);
        Check.due("who has the first", field.about(first, 3), other);
        Check.due("who has the second", field.about(second, 3), one);
    }

    private static void lendRefusesTornAndWet() {
        Windlane field = new Windlane();
        int kite = Check.lentKite(field, Windlane.DELTA, 20, 5);
        Check.tear(field, kite, 5);
        field.giveBack(0);
        Check.refuses(field, "lend of a torn kite", Check.STATE, () -> field.lend(kite, 0));
        field.patch(kite);
        field.lend(kite, 0);
        field.wind(5, 0);
        field.fly(kite, 0, 10);
        field.rain(true);
        field.pass(1);
        field.land(kite);
        field.giveBack(0);
        for (int hours = 6; hours > 0; hours--) {
            Check.due("wet hours", field.about(kite, 2), hours);
            Check.refuses(field, "lend of a wet kite", Check.STATE, () -> field.lend(kite, 0));
            field.pass(1);
        }
        field.lend(kite, 0);
        Check.due("who has it, dry", field.about(kite, 3), 0);
    }

    private static void lendRefusesWhatIsNotThere() {
        for (int bad : new int[] {-1, 1, 8, Integer.MIN_VALUE, Integer.MAX_VALUE}) {
            Windlane field = new Windlane();
            field.kite(Windlane.SLED, 1, 1);
            field.borrower(1);
            Check.refuses(field, "lend of no kite", Check.INDEX, () -> field.lend(bad, 0));
            Check.refuses(field, "lend to no borrower", Check.INDEX, () -> field.lend(0, bad));
            Check.refuses(field, "lend of no kite to no borrower", Check.INDEX, () -> field.lend(bad, bad));
        }
    }

    private static void giveBackReturnsTheKite() {
        Windlane field = new Windlane();
        field.kite(0, 1, 1);
        field.kite(0, 1, 1);
        field.kite(0, 1, 1);
        field.borrower(1);
        field.borrower(1);
        field.lend(2, 0);
        field.lend(0, 1);
        Check.due("giveBack", field.giveBack(0), 2);
        Check.due("who has it", field.about(2, 3), Windlane.NONE);
        Check.due("who has the other", field.about(0, 3), 1);
        Check.refuses(field, "giveBack of nothing", Check.STATE, () -> field.giveBack(0));
        field.lend(1, 0);
        Check.due("giveBack of another", field.giveBack(0), 1);
    }

    private static void giveBackTakesWetAndTorn() {
        Windlane field = new Windlane();
        int kite = Check.lentKite(field, Windlane.DELTA, 20, 5);
        field.wind(5, 0);
        field.fly(kite, 0, 10);
        field.rain(true);
        field.pass(1);
        field.wind(30, 0);
        Check.due("torn", field.about(kite, 1), 1);
        Check.due("wet", field.about(kite, 2), 6);
        Check.due("giveBack, wet and torn", field.giveBack(0), kite);
        Check.due("torn in the shed", field.about(kite, 1), 1);
        Check.due("wet in the shed", field.about(kite, 2), 6);
    }

    private static void giveBackRefuses() {
        Windlane field = new Windlane();
        int kite = Check.lentKite(field, Windlane.DELTA, 10, 5);
        field.wind(8, 0);
        field.fly(kite, 0, 10);
        Check.refuses(field, "giveBack of a flying kite", Check.STATE, () -> field.giveBack(0));
        for (int bad : new int[] {-1, 1, 8, Integer.MIN_VALUE, Integer.MAX_VALUE}) {
            Check.refuses(field, "giveBack of no borrower", Check.INDEX, () -> field.giveBack(bad));
        }
        field.land(kite);
        Check.due("giveBack after land", field.giveBack(0), kite);
    }

    private static void objectsAreApart() {
        Windlane one = new Windlane();
        Windlane other = new Windlane();
        int kite = Check.lentKite(one, Windlane.DELTA, 10, 5);
        one.wind(8, 5);
        one.fly(kite, 0, 10);
        one.rain(true);
        Check.due("kite of the other", other.kite(0, 1, 1), 0);
        Check.due("lane of the other", other.lane(0), Windlane.NONE);
        Check.isTrue("rain of the other", !other.rain(false));
        Check.due("tension of the other", other.tension(0), Float.floatToIntBits(-1f));
    }
}
