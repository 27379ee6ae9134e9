/** Objects in the states from which the tests of bounds begin; each call makes a new one, always alike. */
final class Fields {
    private Fields() {
    }

    /** Kite 0 in the shed, and borrower 0 who may have any kind. */
    static Windlane inShed(int kind, int area, int weight) {
        Windlane field = new Windlane();
        field.kite(kind, area, weight);
        field.borrower(3);
        return field;
    }

    /** Kite 0, lent to borrower 0, in this wind. */
    static Windlane lent(int kind, int area, int weight, int speed, int side) {
        Windlane field = inShed(kind, area, weight);
        field.lend(0, 0);
        field.wind(speed, side);
        return field;
    }

    /** Kite 0, a DELTA with a pull of 2700 in the wind of now, lent to borrower 0. */
    static Windlane ready() {
        return lent(Windlane.DELTA, 10, 5, 8, 4);
    }

    /** The same kite in lane 3, its end at 354. */
    static Windlane flying() {
        Windlane field = ready();
        field.fly(0, 3, 50);
        return field;
    }

    /** Kite 0, torn, lent to borrower 0, in a wind in which it would hold. */
    static Windlane torn() {
        Windlane field = ready();
        tear(field);
        return field;
    }

    /** Kite 0 torn by a wind of 30, for which it flew in lane 3; the wind is 8, 4 then. */
    static void tear(Windlane field) {
        field.wind(8, 4);
        field.fly(0, 3, 50);
        field.wind(30, 4);
        field.wind(8, 4);
    }

    /** Kite 0, landed and wet for so many hours, 6 or fewer, with borrower 0; it does not rain. */
    static Windlane wet(int hours) {
        Windlane field = flying();
        field.rain(true);
        field.pass(1);
        field.rain(false);
        field.land(0);
        if (hours < 6) {
            field.pass(6 - hours);
        }
        return field;
    }

    /** 8 kites and 8 borrowers of all kinds and skills, of which the first three have the kites of their number. */
    static Windlane full() {
        Windlane field = new Windlane();
        for (int i = 0; i < 8; i++) {
            field.kite(i % 3, 10, 5);
            field.borrower(1 + i % 3);
        }
        for (int i = 0; i < 3; i++) {
            field.lend(i, i);
        }
        field.wind(8, 4);
        field.fly(0, 0, 40);
        return field;
    }

    /** Kites 0 and 1, lent, in this wind; kind, area and weight of each. */
    static Windlane pair(int[] first, int[] second, int speed, int side) {
        Windlane field = new Windlane();
        field.kite(first[0], first[1], first[2]);
        field.kite(second[0], second[1], second[2]);
        field.lend(0, field.borrower(3));
        field.lend(1, field.borrower(3));
        field.wind(speed, side);
        return field;
    }
}
