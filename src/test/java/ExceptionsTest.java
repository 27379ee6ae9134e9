import java.util.List;
import java.util.function.Consumer;
import java.util.function.Supplier;

/** 'Exceptions': which is thrown for what is not there, which is thrown first, and that nothing changes. */
public final class ExceptionsTest {
    private static final int DELTA = Windlane.DELTA, SLED = Windlane.SLED;

    private static final List<Consumer<Windlane>> REFUSED_BY_THE_FULL = List.of(
        field -> field.kite(0, 1, 1), field -> field.kite(3, 1, 1), field -> field.borrower(1),
        field -> field.borrower(4), field -> field.patch(0), field -> field.patch(8),
        field -> field.lend(0, 3), field -> field.lend(3, 0), field -> field.lend(5, 6),
        field -> field.lend(3, 8), field -> field.giveBack(0), field -> field.giveBack(3),
        field -> field.giveBack(8), field -> field.fly(0, 9, 10), field -> field.fly(1, 0, 10),
        field -> field.fly(1, 10, 10), field -> field.fly(1, 9, 9), field -> field.land(1),
        field -> field.land(-1), field -> field.wind(31, 0), field -> field.wind(0, 6),
        field -> field.pass(0), field -> field.pass(25), field -> field.pull(0, 31),
        field -> field.pullAnew(0, -1), field -> field.tension(8), field -> field.window(8, true),
        field -> field.about(0, 6), field -> field.lane(10));

    public static void main(String[] args) {
        thereIsNoSuchKite();
        thereIsNoSuchBorrower();
        noSuchKiteAmongEight();
        kiteNamesTheArgumentFirst();
        borrowerNamesTheArgumentFirst();
        lendNamesWhatIsNotThereFirst();
        flyNamesWhatIsNotThereFirst();
        flyNamesTheLengthBeforeTheState();
        pullNamesTheKiteFirst();
        aboutNamesTheKiteFirst();
        refusedWindCallsNobodyDown();
        refusalsInARowChangeNothing();
        Check.finish();
    }

    private static void noSuchKite(String what, Supplier<Windlane> made, int bad) {
        String told = " of kite " + bad + ", " + what;
        Check.refused("patch" + told, Check.INDEX, made, field -> field.patch(bad));
        Check.refused("lend" + told, Check.INDEX, made, field -> field.lend(bad, 0));
        Check.refused("fly" + told, Check.INDEX, made, field -> field.fly(bad, 0, 10));
        Check.refused("land" + told, Check.INDEX, made, field -> field.land(bad));
        Check.refused("pull" + told, Check.INDEX, made, field -> field.pull(bad, 8));
        Check.refused("pullAnew" + told, Check.INDEX, made, field -> field.pullAnew(bad, 8));
        Check.refused("tension" + told, Check.INDEX, made, field -> field.tension(bad));
        Check.refused("window" + told, Check.INDEX, made, field -> field.window(bad, true));
        Check.refused("window" + told, Check.INDEX, made, field -> field.window(bad, false));
        for (int number = 0; number <= 5; number++) {
            int about = number;
            Check.refused("about" + told, Check.INDEX, made, field -> field.about(bad, about));
        }
    }

    private static void thereIsNoSuchKite() {
        Check.sentence("IndexOutOfBoundsException: there is no such kite");
        for (int bad : new int[] {-1, 1, 7, 8, 256, 65536, Integer.MIN_VALUE, Integer.MAX_VALUE}) {
            noSuchKite("with one kite", Fields::ready, bad);
        }
        for (int bad : new int[] {-1, 0, 7, 8}) {
            noSuchKite("without kites", ExceptionsTest::borrowerAlone, bad);
        }
    }

    private static Windlane borrowerAlone() {
        Windlane field = new Windlane();
        field.borrower(3);
        field.wind(8, 4);
        return field;
    }

    private static void noSuchKiteAmongEight() {
        Check.sentence("IndexOutOfBoundsException: there is no such kite; there are 8");
        for (int bad : Check.outside(0, 7)) {
            noSuchKite("with eight kites", Fields::full, bad);
        }
    }

    private static void thereIsNoSuchBorrower() {
        Check.sentence("IndexOutOfBoundsException: there is no such borrower");
        for (int bad : new int[] {-1, 1, 7, 8, 256, 65536, Integer.MIN_VALUE, Integer.MAX_VALUE}) {
            Supplier<Windlane> one = () -> Fields.inShed(DELTA, 10, 5);
            Check.refused("lend to borrower " + bad, Check.INDEX, one, field -> field.lend(0, bad));
            Check.refused("giveBack of borrower " + bad, Check.INDEX, one, field -> field.giveBack(bad));
        }
        for (int bad : Check.outside(0, 7)) {
            Check.refused("lend to borrower " + bad, Check.INDEX, Fields::full, field -> field.lend(3, bad));
            Check.refused("giveBack of borrower " + bad, Check.INDEX, Fields::full, field -> field.giveBack(bad));
        }
    }

    private static void kiteNamesTheArgumentFirst() {
        Check.sentence("If several apply, the one that is named first in the throws clause is thrown: kite");
        int[][] rows = {{-1, 1, 1}, {3, 1, 1}, {0, 0, 1}, {0, 21, 1}, {0, 1, 0}, {0, 1, 21}, {3, 21, 21}};
        for (int[] row : rows) {
            Check.refused("a bad ninth kite", Check.RANGE, Fields::full, field -> field.kite(row[0], row[1], row[2]));
        }
    }

    private static void borrowerNamesTheArgumentFirst() {
        Check.sentence("If several apply, the one that is named first in the throws clause is thrown: borrower");
        for (int bad : Check.outside(1, 3)) {
            Check.refused("a bad ninth borrower", Check.RANGE, Fields::full, field -> field.borrower(bad));
        }
    }

    private static void lendNamesWhatIsNotThereFirst() {
        Check.sentence("If several apply, the one that is named first in the throws clause is thrown: lend");
        for (int bad : new int[] {-1, 1, 8}) {
            Check.refused("a lent kite, no borrower", Check.INDEX, Fields::ready, field -> field.lend(0, bad));
            Check.refused("a flying kite, no borrower", Check.INDEX, Fields::flying, field -> field.lend(0, bad));
            Check.refused("a torn kite, no borrower", Check.INDEX, Fields::torn, field -> field.lend(0, bad));
            Check.refused("a wet kite, no borrower", Check.INDEX, () -> Fields.wet(6), field -> field.lend(0, bad));
            Check.refused("no kite, a borrower with one", Check.INDEX, Fields::ready, field -> field.lend(bad, 0));
            Check.refused("no kite, no borrower", Check.INDEX, Fields::ready, field -> field.lend(bad, bad));
        }
    }

    private static void flyIsRefused(String what, Class<?> want, Supplier<Windlane> made, int lane, int length) {
        Check.refused(what, want, made, field -> field.fly(0, lane, length));
    }

    private static void flyNamesWhatIsNotThereFirst() {
        Check.sentence("If several apply, the one that is named first in the throws clause is thrown: fly");
        for (int bad : new int[] {-1, 10}) {
            flyIsRefused("no lane, a bad length", Check.INDEX, Fields::ready, bad, 9);
            flyIsRefused("no lane, a kite in the shed", Check.INDEX, () -> Fields.inShed(DELTA, 10, 5), bad, 10);
            flyIsRefused("no lane, a torn kite", Check.INDEX, Fields::torn, bad, 10);
            flyIsRefused("no lane, a flying kite", Check.INDEX, Fields::flying, bad, 10);
            flyIsRefused("no lane, no wind", Check.INDEX, () -> Fields.lent(DELTA, 10, 5, 0, 0), bad, 101);
            Check.refused("no kite, no lane", Check.INDEX, Fields::ready, field -> field.fly(1, bad, 10));
        }
        for (int bad : new int[] {9, 101}) {
            Check.refused("no kite, a bad length", Check.INDEX, Fields::ready, field -> field.fly(1, 0, bad));
            Check.refused("no kite, no lane, a bad length", Check.INDEX, Fields::ready, field -> field.fly(1, 10, bad));
            Check.refused("no kite, a taken lane", Check.INDEX, Fields::flying, field -> field.fly(1, 3, bad));
        }
    }

    private static void flyNamesTheLengthBeforeTheState() {
        Check.sentence("If several apply, the one that is named first in the throws clause is thrown: fly, its length");
        for (int bad : new int[] {9, 101}) {
            flyIsRefused("a kite in the shed", Check.RANGE, () -> Fields.inShed(DELTA, 10, 5), 0, bad);
            flyIsRefused("a torn kite", Check.RANGE, Fields::torn, 0, bad);
            flyIsRefused("a flying kite", Check.RANGE, Fields::flying, 0, bad);
            flyIsRefused("a kite that does not hold", Check.RANGE, () -> Fields.lent(DELTA, 10, 5, 30, 0), 0, bad);
            Check.refused("a taken lane", Check.RANGE, ExceptionsTest::oneFlyingOfTwo, field -> field.fly(1, 0, bad));
            Check.refused("lines that cross", Check.RANGE, ExceptionsTest::oneFlyingOfTwo,
                field -> field.fly(1, 1, bad));
        }
        Check.refused("lines that cross", Check.STATE, ExceptionsTest::oneFlyingOfTwo, field -> field.fly(1, 1, 10));
    }

    /** Kite 0 flies across lanes 1 to 3 from lane 0; kite 1, with a pull of 6000, is ready. */
    private static Windlane oneFlyingOfTwo() {
        Windlane field = Fields.pair(new int[] {DELTA, 4, 4}, new int[] {SLED, 20, 20}, 5, 5);
        field.fly(0, 0, 80);
        return field;
    }

    private static void pullNamesTheKiteFirst() {
        Check.sentence("If several apply, the one that is named first in the throws clause is thrown: pull, pullAnew");
        for (int bad : Check.outside(0, 30)) {
            Check.refused("pull", Check.INDEX, Fields::ready, field -> field.pull(1, bad));
            Check.refused("pullAnew", Check.INDEX, Fields::ready, field -> field.pullAnew(-1, bad));
        }
    }

    private static void aboutNamesTheKiteFirst() {
        Check.sentence("If several apply, the one that is named first in the throws clause is thrown: about");
        for (int bad : Check.outside(0, 5)) {
            Check.refused("about", Check.INDEX, Fields::ready, field -> field.about(1, bad));
            Check.refused("about", Check.INDEX, Fields::ready, field -> field.about(-1, bad));
        }
    }

    private static void refusedWindCallsNobodyDown() {
        Check.sentence("a call that throws changes nothing: wind");
        // A speed of 0 or 30 would call it down, if the bad side came too late; a side of 0 would move its end.
        for (int bad : Check.outside(-5, 5)) {
            Check.refused("calm with a bad side", Check.RANGE, Fields::flying, field -> field.wind(0, bad));
            Check.refused("storm with a bad side", Check.RANGE, Fields::flying, field -> field.wind(30, bad));
        }
        for (int bad : Check.outside(0, 30)) {
            Check.refused("a bad speed", Check.RANGE, Fields::flying, field -> field.wind(bad, 0));
            Check.refused("a bad speed and side", Check.RANGE, Fields::flying, field -> field.wind(bad, 6));
        }
    }

    private static void refusalsInARowChangeNothing() {
        Check.sentence("a call that throws changes nothing: many of them");
        Windlane field = Fields.full();
        int refused = 0;
        for (Consumer<Windlane> call : REFUSED_BY_THE_FULL) {
            for (int i = 0; i < 4; i++) {
                refused += Check.thrownBy(() -> call.accept(field)) == null ? 0 : 1;
            }
        }
        Check.due("refused calls", refused, 4 * REFUSED_BY_THE_FULL.size());
        String got = Probe.answersOf(field);
        Check.isTrue("they changed something: " + got, got.equals(Probe.answersOf(Fields.full())));
    }
}
