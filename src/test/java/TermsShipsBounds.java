/** The terms up to weights, sentence by sentence: each bound, its neighbour that is allowed, and what is refused. */
final class TermsShipsBounds {
    private static final int NONE = CallClub.NONE;
    private static final int CREW = CallClub.CREW;
    private static final int MANY = 2000000000;

    private TermsShipsBounds() {
    }

    static void all() {
        Doc.terms();
        Doc.says("If several exceptions apply to a call, the one that its comment lists first is thrown",
                TermsShipsBounds::theFirstException);
        Doc.says("A call that throws an exception changes nothing", TermsShipsBounds::changesNothing);
        Doc.says("Divisions are rounded down", TermsShipsBounds::roundedDown);
        Doc.says("what could be below 0 is told", TermsShipsBounds::belowZero);
        Doc.says("Days are numbered from 0, to 1999", TermsShipsBounds::days);
        Doc.says("a year has 100 days, the year of a day being it divided by 100", TermsShipsBounds::yearOfADay);
        Doc.says("there are the years 0 to 19", TermsShipsBounds::years);
        Doc.says("Members are numbered from 0, at most 12", TermsShipsBounds::members);
        Doc.says("ships from 0, at most 24", TermsShipsBounds::ships);
        Doc.says("a ship is of a member, and has a tonnage, 1 to 999", TermsShipsBounds::tonnages);
        Doc.says("A ship is entered from the day on which that is told up to, but without, the day on which it leaves",
                TermsShipsBounds::withoutTheDayOfLeaving);
        Doc.says("it can be entered again", TermsShipsBounds::enteredAgain);
        Doc.says("is the sum, over its ships, of the tonnage times the days of that year",
                TermsShipsBounds::sumOverShips);
        Doc.says("100 at first", TermsShipsBounds::ratingAtFirst);
        Doc.says("divided by 100 once. A ship", TermsShipsBounds::dividedOnce);
        Doc.says("A ship that is entered now counts as entered on all days to come", TermsShipsBounds::daysToCome);
    }

    // ---- exceptions

    /** A club that is full of everything, on the day 250, with the years 0 and 1 closed. */
    private static CallClub fullClub() {
        CallClub x = new CallClub();
        for (int i = 0; i < 12; i++) {
            x.member();
        }
        for (int i = 0; i < 24; i++) {
            x.ship(i % 12, 10);
        }
        for (int i = 0; i < 60; i++) {
            x.enter(i % 23);
            x.leave(i % 23);
        }
        x.claim(0, CREW, 0, 100, NONE);
        x.settle(0, false);
        Clubs.passTo(x, 250);
        for (int i = 1; i < 60; i++) {
            x.claim(1, CREW, 250, 100, i == 1 ? NONE : 1);
        }
        x.settle(1, false);
        x.close(0);
        x.close(1);
        return x;
    }

    private static void theFirstException() {
        CallClub x = fullClub();
        shipsAndDays(x);
        rulesAndClaims(x);
        callsAndClosing(x);
        lettersAndArrests(x);
    }

    private static void shipsAndDays(CallClub x) {
        Refuses.index(x, "ship: member, tonnage, full", c -> c.ship(12, 0));
        Refuses.argument(x, "ship: tonnage, full", c -> c.ship(0, 0));
        Refuses.index(x, "enter: ship, full", c -> c.enter(24));
        Refuses.index(x, "leave: ship", c -> c.leave(24));
        Refuses.index(x, "rate: member, year, hundredths", c -> c.rate(12, 20, 501));
        Refuses.index(x, "rate: member, closed", c -> c.rate(12, 0, 100));
        Refuses.argument(x, "rate: hundredths, closed", c -> c.rate(0, 0, 501));
        Refuses.argument(x, "rate: year, hundredths", c -> c.rate(0, 20, 9));
        Refuses.index(x, "weight: member, year", c -> c.weight(12, 20));
        Refuses.index(x, "weightAnew: member, year", c -> c.weightAnew(-1, -1));
        CallClub y = new CallClub();
        Clubs.passTo(y, 1999);
        Refuses.argument(y, "pass: days, above 1999", c -> c.pass(201));
        Refuses.argument(y, "pass: far too many days", c -> c.pass(Integer.MAX_VALUE));
    }

    private static void rulesAndClaims(CallClub x) {
        Refuses.argument(x, "rule: kind, closed", c -> c.rule(4, 0, 0, 0));
        Refuses.argument(x, "rule: deductible, closed", c -> c.rule(0, 0, -1, 0));
        Refuses.argument(x, "rule: limit, closed", c -> c.rule(0, 0, 0, -1));
        Refuses.argument(x, "pool: retention, closed", c -> c.pool(0, -1, 0, 0));
        Refuses.argument(x, "pool: bound, closed", c -> c.pool(0, 5, 4, 0));
        Refuses.argument(x, "pool: share, closed", c -> c.pool(0, 0, 0, 101));
        Refuses.index(x, "claim: ship, event, all else", c -> c.claim(24, 4, 300, -1, 2));
        Refuses.index(x, "claim: event, closed, full", c -> c.claim(0, CREW, 0, 5, 2));
        Refuses.index(x, "claim: event, kind, day, loss", c -> c.claim(0, -1, -1, -1, -2));
        Refuses.argument(x, "claim: kind, closed, full", c -> c.claim(0, 4, 0, 5, NONE));
        Refuses.argument(x, "claim: day, full", c -> c.claim(0, CREW, 251, 5, NONE));
        Refuses.argument(x, "claim: loss, closed, full", c -> c.claim(0, CREW, 0, -1, NONE));
        Refuses.argument(x, "claim: another day, closed, full", c -> c.claim(0, CREW, 1, 5, 0));
        Refuses.argument(x, "claim: another day, full", c -> c.claim(0, CREW, 249, 5, 1));
        Refuses.index(x, "collide: first, fault, full", c -> c.collide(24, 0, 101, 5, 5));
        Refuses.index(x, "collide: second, loss, full", c -> c.collide(0, 24, 50, -1, 5));
        Refuses.index(x, "collide: both the same, full", c -> c.collide(24, 24, 50, 5, 5));
        Refuses.argument(x, "collide: the same, full", c -> c.collide(0, 0, 50, 5, 5));
        Refuses.argument(x, "collide: fault, full", c -> c.collide(0, 1, 101, 5, 5));
        Refuses.argument(x, "collide: other, full", c -> c.collide(0, 1, 50, 5, -1));
        Refuses.index(x, "estimate: claim, loss", c -> c.estimate(60, -1));
        Refuses.argument(x, "estimate: loss, settled", c -> c.estimate(0, -1));
        Refuses.index(x, "settle: claim", c -> c.settle(60, false));
        Refuses.index(x, "broken: claim", c -> c.broken(60));
        Refuses.index(x, "ofClaim: claim, what", c -> c.ofClaim(60, 6));
        Refuses.index(x, "ofEvent: event, what", c -> c.ofEvent(2, 4));
    }

    private static void callsAndClosing(CallClub x) {
        Refuses.argument(x, "advance: cents, closed", c -> c.advance(0, -1));
        Refuses.argument(x, "further: hundredths, closed", c -> c.further(0, 0));
        Refuses.index(x, "release: member, hundredths", c -> c.release(12, 201));
        Refuses.argument(x, "release: hundredths, no weight", c -> c.release(0, 201));
        Refuses.index(x, "pay: member, cents", c -> c.pay(12, 0));
        Refuses.index(x, "stop: member, day", c -> c.stop(12, -1));
        Refuses.index(x, "stop: member", c -> c.stop(12, 0));
        Refuses.argument(x, "stop: day, owes nothing", c -> c.stop(0, 251));
        Refuses.index(x, "due: member, year", c -> c.due(12, 20));
        CallClub y = Clubs.ofTonnages(10, 10);
        y.pass(50);
        Refuses.argument(y, "release: hundredths, has a ship entered", c -> c.release(0, -1));
        y.leave(0);
        y.release(0, 0);
        Refuses.argument(y, "advance: cents, released", c -> c.advance(0, 1000001));
        Refuses.argument(y, "rate: hundredths, released", c -> c.rate(0, 0, 9));
        for (int i = 0; i < 5; i++) {
            y.further(0, 200);
        }
        Refuses.argument(y, "further: hundredths, above 1000", c -> c.further(0, 201));
    }

    private static void lettersAndArrests(CallClub x) {
        Refuses.index(x, "letter: claim, cents", c -> c.letter(60, 0));
        Refuses.argument(x, "letter: cents, settled", c -> c.letter(0, 0));
        Refuses.argument(x, "letter: cents, more than the loss", c -> c.letter(2, 100000001));
        Refuses.index(x, "arrest: ship, settled", c -> c.arrest(24, 0));
        Refuses.index(x, "arrest: claim, no sister", c -> c.arrest(23, 60));
        Refuses.index(x, "arrest: ship and claim", c -> c.arrest(-1, -1));
        Refuses.index(x, "isArrested: ship", c -> c.isArrested(24));
    }

    /** The same story on two objects, one of which is asked for what it must refuse in between. */
    private static void changesNothing() {
        CallClub plain = new CallClub();
        CallClub asked = new CallClub();
        for (int step = 0; step < 24; step++) {
            String before = Picture.of(asked);
            tell(plain, step);
            tell(asked, step);
            Check.equal("step " + step + " itself is seen", before.equals(Picture.of(asked)), false);
            refusedOnes(asked);
            Check.equal("behind step " + step, Picture.of(asked).equals(Picture.of(plain)), true);
        }
        Check.equal("day", asked.day(), plain.day());
        Check.equal("owes", asked.owes(0), plain.owes(0));
        Check.equal("cost", asked.cost(1), plain.cost(1));
        Check.equal("result", asked.result(0), plain.result(0));
        Check.equal("reserve", asked.reserve(), plain.reserve());
    }

    private static void tell(CallClub x, int step) {
        switch (step) {
            case 0, 1 -> x.member();
            case 2, 3, 4 -> x.ship(step % 2, 10 * step);
            case 5, 6 -> x.enter(step - 5);
            case 7 -> x.advance(0, 5000);
            case 8 -> x.claim(0, CREW, 0, 700, NONE);
            case 9 -> x.collide(0, 1, 30, 999, 888);
            case 10 -> x.rule(CREW, 0, 10, 600);
            case 11 -> x.pool(0, 50, 500, 40);
            case 12 -> x.letter(0, 600);
            case 13 -> x.arrest(2, 0);
            case 14 -> x.pass(100);
            case 15, 16, 17 -> x.settle(step - 15, step == 16);
            case 18 -> x.stop(0, 0);
            case 19 -> x.leave(1);
            case 20 -> x.release(1, 50);
            case 21 -> x.further(0, 150);
            case 22 -> x.close(0);
            default -> x.pay(0, 1);
        }
    }

    private static void refusedOnes(CallClub x) {
        Refuses.index(x, "ship", c -> c.ship(2, 5));
        Refuses.argument(x, "pass", c -> c.pass(201));
        Refuses.argument(x, "rule", c -> c.rule(CREW, 0, 0, MANY));
        Refuses.argument(x, "pool", c -> c.pool(0, 0, MANY, 0));
        Refuses.index(x, "claim", c -> c.claim(3, CREW, 0, 5, NONE));
        Refuses.index(x, "collide", c -> c.collide(0, 3, 50, 5, 5));
        Refuses.index(x, "estimate", c -> c.estimate(3, 5));
        Refuses.argument(x, "advance", c -> c.advance(0, MANY));
        Refuses.argument(x, "further", c -> c.further(0, 201));
        Refuses.index(x, "pay", c -> c.pay(2, 5));
        Refuses.index(x, "stop", c -> c.stop(2, 0));
        Refuses.state(x, "close", c -> c.close(1));
        Refuses.index(x, "letter", c -> c.letter(3, 5));
        Refuses.index(x, "arrest", c -> c.arrest(3, 0));
    }

    // ---- divisions, signs

    private static void roundedDown() {
        CallClub x = Clubs.ofTonnages(1, 1);
        x.pass(99);
        x.leave(0);
        x.rate(0, 0, 199);
        Check.equal("a weight, 197.01", x.weight(0, 0), 197);
        Check.equal("the same day by day", x.weightAnew(0, 0), 197);
        x.advance(0, 111);
        Check.equal("an advance, 21.867", x.due(0, 0), 21);
        x.further(0, 9);
        Check.equal("further calls of it, 1.89", x.due(0, 0), 22);
        x.release(0, 14);
        Check.equal("a release, 2.94", x.due(0, 0), 24);
        x.collide(0, 1, 50, 99, 99);
        Check.equal("cross liabilities, 49.5", x.ofClaim(0, 0), 49);
        Check.equal("cross liabilities of the other, 49.5", x.ofClaim(1, 0), 49);
        x.pool(0, 0, 100, 99);
        Check.equal("a share of the pool, 48.51", x.ofEvent(0, 1), 48);
        CallClub y = Clubs.ofTonnages(1, 2);
        y.claim(0, CREW, 0, 5, NONE);
        y.settle(0, false);
        y.pass(100);
        y.close(0);
        Check.equal("a part, 3.33", y.due(1, 0), 3);
        Check.equal("a part, 1.67, and what is left", y.due(0, 0), 2);
    }

    private static void belowZero() {
        CallClub x = Clubs.ofTonnages(10, 10);
        x.advance(0, 7);
        x.claim(1, CREW, 0, 5, NONE);
        x.settle(0, false);
        Clubs.passTo(x, 100);
        x.leave(0);
        x.release(0, 0);
        x.pay(0, 8);
        x.close(0);
        Check.equal("what is due", x.due(1, 0), -2);
        Check.equal("what is owed", x.owes(0), -1);
        Check.equal("a result", Clubs.ofTonnages(1).result(0), 0);
        x.claim(1, CREW, 100, 5, NONE);
        Check.equal("a result below 0", x.result(1), -5);
        Check.equal("what the limit is less than the deductible", ruledBelowZero(), 0);
    }

    private static long ruledBelowZero() {
        CallClub x = Clubs.ofTonnages(10);
        x.claim(0, CREW, 0, 5, NONE);
        x.rule(CREW, 0, 1000000, 0);
        return x.cost(0);
    }

    // ---- days, members, ships

    private static void days() {
        CallClub x = Clubs.ofTonnages(10);
        x.claim(0, CREW, 0, 5, NONE);
        Clubs.passTo(x, 1998);
        x.advance(19, 1000);
        x.pass(1);
        x.claim(0, CREW, 1999, 7, NONE);
        Check.equal("the day 1999", x.stop(0, 1999), NONE);
        Check.equal("not covered on the last day", x.ofClaim(1, 2), 0);
        Check.equal("the day 0", x.stop(0, 0), 1999);
        Check.equal("not covered on the first day", x.ofClaim(0, 2), 0);
        Refuses.state(x, "the day 2000", c -> c.pass(1));
        Refuses.argument(x, "a claim of the day 2000", c -> c.claim(0, CREW, 2000, 5, NONE));
        Refuses.argument(x, "a claim of the day -1", c -> c.claim(0, CREW, -1, 5, NONE));
    }

    private static void yearOfADay() {
        CallClub x = Clubs.ofTonnages(10);
        Clubs.passTo(x, 1999);
        int[] days = {0, 99, 100, 199, 200, 1899, 1900, 1999};
        for (int i = 0; i < days.length; i++) {
            x.claim(0, CREW, days[i], 1 << i, NONE);
        }
        Check.equal("the days 0 and 99", x.cost(0), 3);
        Check.equal("the days 100 and 199", x.cost(1), 12);
        Check.equal("the day 200", x.cost(2), 16);
        Check.equal("the day 1899", x.cost(18), 32);
        Check.equal("the days 1900 and 1999", x.cost(19), 192);
        CallClub y = Clubs.ofTonnages(10);
        y.pass(99);
        Refuses.state(y, "99 days of the year are over", c -> c.close(0));
        y.pass(1);
        Check.equal("100 are", y.close(0), 0);
    }

    private static void years() {
        CallClub x = Clubs.ofTonnages(10);
        Refuses.outsideYears(x, (c, v) -> c.rate(0, v, 100));
        Refuses.outsideYears(x, (c, v) -> c.weight(0, v));
        Refuses.outsideYears(x, (c, v) -> c.weightAnew(0, v));
        Refuses.outsideYears(x, (c, v) -> c.rule(CREW, v, 0, 0));
        Refuses.outsideYears(x, (c, v) -> c.pool(v, 0, 0, 0));
        Refuses.outsideYears(x, (c, v) -> c.cost(v));
        Refuses.outsideYears(x, (c, v) -> c.advance(v, 0));
        Refuses.outsideYears(x, (c, v) -> c.further(v, 1));
        Refuses.outsideYears(x, (c, v) -> c.close(v));
        Refuses.outsideYears(x, (c, v) -> c.due(0, v));
        Refuses.outsideYears(x, (c, v) -> c.result(v));
        Refuses.outsideYears(x, (c, v) -> c.isClosed(v));
        for (int year = 0; year < 20; year += 19) {
            Check.equal("rate", x.rate(0, year, 200), 100);
            Check.equal("weight", x.weight(0, year), 2000);
            Check.equal("weightAnew", x.weightAnew(0, year), 2000);
            x.rule(CREW, year, 0, 0);
            x.pool(year, 0, 0, 0);
            Check.equal("cost", x.cost(year), 0);
            Check.equal("advance", x.advance(year, 100), 0);
            Check.equal("further", x.further(year, 100), 100);
            Check.equal("due", x.due(0, year), 400);
            Check.equal("result", x.result(year), 400);
            Check.equal("isClosed", x.isClosed(year), false);
        }
    }

    private static void members() {
        CallClub x = new CallClub();
        for (int i = 0; i < 12; i++) {
            Check.equal("member " + i, x.member(), i);
            x.enter(x.ship(i, i + 1));
        }
        Refuses.state(x, "a 13th", CallClub::member);
        x.advance(0, 1000);
        for (int i = 0; i < 12; i++) {
            Check.equal("what is due of " + i, x.due(i, 0), 100 * (i + 1));
        }
        Check.equal("all of them", x.result(0), 7800);
        x.pass(100);
        x.close(0);
        Check.equal("all of them, closed", x.result(0), 0);
    }

    private static void ships() {
        CallClub x = new CallClub();
        x.member();
        for (int i = 0; i < 24; i++) {
            Check.equal("ship " + i, x.ship(0, i + 1), i);
            x.enter(i);
        }
        Refuses.state(x, "a 25th", c -> c.ship(0, 5));
        Check.equal("all of them", x.weight(0, 0), 30000);
        Check.equal("all of them, day by day", x.weightAnew(0, 0), 30000);
        x.claim(23, CREW, 0, 5, NONE);
        Check.equal("the last one is arrested", x.arrest(23, 0), true);
    }

    private static void tonnages() {
        CallClub x = new CallClub();
        x.member();
        x.member();
        Refuses.outside(x, "tonnage", 1, 999, (c, v) -> c.ship(0, v));
        x.enter(x.ship(0, 1));
        x.enter(x.ship(1, 999));
        x.claim(0, CREW, 0, 100000000, NONE);
        x.claim(1, CREW, 0, 100000000, NONE);
        Check.equal("1", x.ofClaim(0, 5), 5000);
        Check.equal("999", x.ofClaim(1, 5), 4995000);
    }

    private static void withoutTheDayOfLeaving() {
        CallClub x = Clubs.ofShips(10);
        x.pass(10);
        x.enter(0);
        x.pass(5);
        x.leave(0);
        x.pass(5);
        int[] days = {9, 10, 14, 15, 20};
        int[] covers = {0, 1, 1, 0, 0};
        for (int i = 0; i < days.length; i++) {
            x.claim(0, CREW, days[i], 5, NONE);
            Check.equal("the day " + days[i], x.ofClaim(i, 2), covers[i]);
        }
        Check.equal("five days", x.weight(0, 0), 50);
        Check.equal("five days, one by one", x.weightAnew(0, 0), 50);
    }

    private static void enteredAgain() {
        CallClub x = Clubs.ofTonnages(10);
        x.pass(10);
        x.leave(0);
        x.enter(0);
        x.pass(10);
        x.leave(0);
        x.pass(10);
        x.enter(0);
        x.pass(10);
        Check.equal("the days of the third entry", x.leave(0), 10);
        Check.equal("each day once", x.weight(0, 0), 300);
        x.claim(0, CREW, 10, 5, NONE);
        x.claim(0, CREW, 20, 5, NONE);
        x.claim(0, CREW, 30, 5, NONE);
        Check.equal("left and entered on a day", x.ofClaim(0, 2), 1);
        Check.equal("between two entries", x.ofClaim(1, 2), 0);
        Check.equal("the day of the third entry", x.ofClaim(2, 2), 1);
    }

    private static void sumOverShips() {
        CallClub x = new CallClub();
        x.member();
        x.member();
        x.enter(x.ship(0, 10));
        x.enter(x.ship(1, 500));
        x.pass(50);
        x.enter(x.ship(0, 3));
        x.ship(0, 700);
        Check.equal("both that are entered", x.weight(0, 0), 1150);
        x.pass(60);
        x.leave(0);
        Check.equal("the year of leaving", x.weight(0, 1), 400);
        Check.equal("another's", x.weight(1, 0), 50000);
    }

    private static void ratingAtFirst() {
        CallClub x = Clubs.ofTonnages(10);
        for (int year = 0; year < 20; year++) {
            Check.equal("of the year " + year, x.rate(0, year, 101), 100);
        }
    }

    private static void dividedOnce() {
        CallClub x = Clubs.ofTonnages(1, 1);
        x.enter(x.ship(0, 1));
        x.pass(1);
        for (int ship = 0; ship < 3; ship++) {
            x.leave(ship);
        }
        x.rate(0, 0, 150);
        x.rate(1, 0, 199);
        // Two ships with a day of 1 each: 3, not twice 1.
        Check.equal("over both ships", x.weight(0, 0), 3);
        Check.equal("over both ships, day by day", x.weightAnew(0, 0), 3);
        Check.equal("1.99", x.weight(1, 0), 1);
    }

    private static void daysToCome() {
        CallClub x = Clubs.ofTonnages(10);
        x.advance(19, 1000);
        Check.equal("the last year, from the first day on", x.due(0, 19), 1000);
        Clubs.passTo(x, 1950);
        x.leave(0);
        Check.equal("half of it, when it leaves", x.due(0, 19), 500);
        x.enter(0);
        Check.equal("all again", x.due(0, 19), 1000);
        Clubs.passTo(x, 1999);
        x.leave(0);
        Check.equal("all but the last day", x.due(0, 19), 990);
    }
}
