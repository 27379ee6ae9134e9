import java.util.function.IntSupplier;

/** All that an object would answer: the questions, then calls that bring out what no question tells. */
final class Probe {
    private static final int KITES = 8;
    private static final int BORROWERS = 8;
    private static final int LANES = 10;

    private final StringBuilder answers = new StringBuilder();
    private final Windlane field;

    private Probe(Windlane field) {
        this.field = field;
    }

    /** Some 200 calls, after which the object is not what it was. */
    static String answersOf(Windlane field) {
        Probe probe = new Probe(field);
        probe.askAll();
        probe.flyAndLand();
        probe.lendAnew();
        probe.flyAndLand();
        probe.passAnHour();
        probe.countOn();
        return probe.answers.toString();
    }

    private void askAll() {
        answers.append("kites:");
        for (int kite = 0; kite < KITES; kite++) {
            for (int what = 0; what <= 5; what++) {
                int asked = kite;
                int about = what;
                note(() -> field.about(asked, about));
            }
        }
        answers.append(" lanes:");
        for (int lane = 0; lane < LANES; lane++) {
            int asked = lane;
            note(() -> field.lane(asked));
        }
        answers.append(" called:");
        note(field::called);
    }

    /** Flying tells who has which kite and, with tension, the wind of now. */
    private void flyAndLand() {
        answers.append(" fly:");
        for (int kite = 0; kite < KITES; kite++) {
            int flyer = kite;
            note(() -> field.tension(flyer));
            note(() -> field.fly(flyer, flyer + 1, 20));
        }
        answers.append(" land:");
        for (int kite = 0; kite < KITES; kite++) {
            int flyer = kite;
            note(() -> field.land(flyer));
        }
    }

    /** Lending tells the skills, and what may leave the shed. */
    private void lendAnew() {
        answers.append(" giveBack:");
        for (int borrower = 0; borrower < BORROWERS; borrower++) {
            int giver = borrower;
            note(() -> field.giveBack(giver));
        }
        answers.append(" lend:");
        for (int kite = 0; kite < KITES; kite++) {
            for (int borrower = 0; borrower < BORROWERS; borrower++) {
                int lent = kite;
                int taker = borrower;
                note(() -> {
                    field.lend(lent, taker);
                    return 1;
                });
            }
        }
    }

    private void passAnHour() {
        answers.append(" hour:");
        note(() -> field.pass(1));
        for (int kite = 0; kite < KITES; kite++) {
            int asked = kite;
            note(() -> field.about(asked, 2));
        }
        note(() -> field.rain(true) ? 1 : 0);
    }

    private void countOn() {
        answers.append(" next:");
        note(() -> field.kite(Windlane.DELTA, 1, 1));
        note(() -> field.borrower(1));
        note(() -> field.wind(0, 0));
        note(field::called);
    }

    private void note(IntSupplier call) {
        answers.append(' ');
        try {
            answers.append(call.getAsInt());
        } catch (RuntimeException e) {
            answers.append(e.getClass().getSimpleName());
        }
    }
}
