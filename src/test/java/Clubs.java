/** Clubs that several tests begin with. */
final class Clubs {
    private Clubs() {
    }

    /** Members with a ship of the tonnage each, not entered; ship and member bear the same number. */
    static CallClub ofShips(int... tonnages) {
        CallClub x = new CallClub();
        for (int tonnage : tonnages) {
            x.ship(x.member(), tonnage);
        }
        return x;
    }

    /** The same, all entered on the day 0. */
    static CallClub ofTonnages(int... tonnages) {
        CallClub x = ofShips(tonnages);
        for (int ship = 0; ship < tonnages.length; ship++) {
            x.enter(ship);
        }
        return x;
    }

    static void passTo(CallClub x, int day) {
        while (x.day() < day) {
            x.pass(Math.min(day - x.day(), 200));
        }
    }

    /** Settles the claims of the numbers told. */
    static void settle(CallClub x, int from, int behind) {
        for (int claim = from; claim < behind; claim++) {
            x.settle(claim, false);
        }
    }
}
