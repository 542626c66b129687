/** Clubs that several tests begin with. */
final class Clubs {
    private Clubs() {
    }

    /** Members with a ship of the tonnage each, entered on the day 0; ship and member bear the same number. */
    static CallClub ofTonnages(int... tonnages) {
        CallClub x = new CallClub();
        for (int tonnage : tonnages) {
            int member = x.member();
            x.enter(x.ship(member, tonnage));
        }
        return x;
    }
}
