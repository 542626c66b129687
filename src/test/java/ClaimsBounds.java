/** Promises 11 to 20, sentence by sentence: each bound, its neighbour that is allowed, and what is refused. */
final class ClaimsBounds {
    private static final int NONE = CallClub.NONE;
    private static final int CREW = CallClub.CREW;
    private static final int CARGO = CallClub.CARGO;
    private static final int COLLISION = CallClub.COLLISION;
    private static final int POLLUTION = CallClub.POLLUTION;
    private static final int LOSS = 100000000;

    private ClaimsBounds() {
    }

    static void all() {
        ruleAndPool();
        claim();
        collide();
        estimateAndSettle();
        ofClaim();
        ofEventAndCost();
    }

    private static void ruleAndPool() {
        Doc.promise(11);
        Doc.says("CREW to POLLUTION", ClaimsBounds::ruledKinds);
        Doc.says("year 0 to 19", ClaimsBounds::ruledYears);
        Doc.says("0 to 1000000", ClaimsBounds::deductibles);
        Doc.says("0 to 10000000", ClaimsBounds::limits);
        Doc.says("an argument is out of its range", ClaimsBounds::rulesOutside);
        Doc.says("the year is closed", ClaimsBounds::rulesClosed);
        Doc.promise(12);
        Doc.says("year 0 to 19", ClaimsBounds::pooledYears);
        Doc.says("0 to 10000000", ClaimsBounds::retentions);
        Doc.says("retention to 100000000", ClaimsBounds::bounds);
        Doc.says("0 to 100 ", ClaimsBounds::shares);
        Doc.says("an argument is out of its range", ClaimsBounds::poolsOutside);
        Doc.says("the year is closed", ClaimsBounds::poolsClosed);
    }

    private static void claim() {
        Doc.promise(13);
        Doc.says("CREW to POLLUTION", ClaimsBounds::claimedKinds);
        Doc.says("0 to today", ClaimsBounds::claimedDays);
        Doc.says("0 to 100000000", ClaimsBounds::claimedLosses);
        Doc.says("an event", ClaimsBounds::claimsOfAnEvent);
        Doc.says("NONE for a new one", ClaimsBounds::claimsOfNewEvents);
        Doc.says("its number", ClaimsBounds::claimNumbers);
        Doc.says("there is no such ship", ClaimsBounds::claimsOfNoShip);
        Doc.says("or event, not being NONE", ClaimsBounds::claimsOfNoEvent);
        Doc.says("another argument is out of its range", ClaimsBounds::claimsOutside);
        Doc.says("day is not that of the event", ClaimsBounds::claimsOfAnotherDay);
        Doc.says("the year of the day is closed", ClaimsBounds::claimsOfAClosedYear);
        Doc.says("there are 60", ClaimsBounds::sixtyClaims);
    }

    private static void collide() {
        Doc.promise(14);
        Doc.says("Tells a collision, today", ClaimsBounds::collidesToday);
        Doc.says("another one", ClaimsBounds::collidesWithAnother);
        Doc.says("0 to 100, of the first one", ClaimsBounds::faults);
        Doc.says("loss 0 to 100000000, of the first one", ClaimsBounds::lossesOfTheFirst);
        Doc.says("other 0 to 100000000, of the second one", ClaimsBounds::lossesOfTheSecond);
        Doc.says("the claim of the first one; that of the second one is the next", ClaimsBounds::theNextClaim);
        Doc.says("there is no such ship, of either", ClaimsBounds::collidesNoShip);
        Doc.says("both are the same", ClaimsBounds::collidesWithItself);
        Doc.says("another argument is out of its range", ClaimsBounds::collidesOutside);
        Doc.says("there are more than 58 claims", ClaimsBounds::fiftyEightClaims);
    }

    private static void estimateAndSettle() {
        Doc.promise(15);
        Doc.says("0 to 100000000", ClaimsBounds::estimates);
        Doc.says("the loss before", ClaimsBounds::lossBefore);
        Doc.says("there is no such claim", ClaimsBounds::estimatesNoClaim);
        Doc.says("loss is out of its range", ClaimsBounds::estimatesOutside);
        Doc.says("it is settled", ClaimsBounds::estimatesSettled);
        Doc.promise(16);
        Doc.says("whether it is struck", ClaimsBounds::settlesOrStrikes);
        Doc.says("there is no such claim", ClaimsBounds::settlesNoClaim);
        Doc.says("it is settled", ClaimsBounds::settlesSettled);
        Doc.promise(17);
        Doc.says("there is no such claim", ClaimsBounds::breaksNoClaim);
        Doc.says("it is settled", ClaimsBounds::breaksSettled);
        Doc.says("or broken", ClaimsBounds::breaksBroken);
    }

    private static void ofClaim() {
        Doc.promise(18);
        Doc.says("0 its loss", ClaimsBounds::lossOfClaim);
        Doc.says("1 its event", ClaimsBounds::eventOfClaim);
        Doc.says("2 whether it is covered, 1 or 0", ClaimsBounds::coverOfClaim);
        Doc.says("3 whether it is settled, 1 or 0", ClaimsBounds::settledOfClaim);
        Doc.says("4 its letters", ClaimsBounds::lettersOfClaim);
        Doc.says("5 what counts of it", ClaimsBounds::countsOfClaim);
        Doc.says("there is no such claim", ClaimsBounds::asksNoClaim);
        Doc.says("what is out of its range", ClaimsBounds::asksOutsideOfClaim);
    }

    private static void ofEventAndCost() {
        Doc.promise(19);
        Doc.says("0 its cost", ClaimsBounds::costOfEvent);
        Doc.says("1 what the club bears", ClaimsBounds::borneOfEvent);
        Doc.says("2 its day", ClaimsBounds::dayOfEvent);
        Doc.says("3 how many claims it has", ClaimsBounds::claimsOfEvent);
        Doc.says("there is no such event", ClaimsBounds::asksNoEvent);
        Doc.says("what is out of its range", ClaimsBounds::asksOutsideOfEvent);
        Doc.promise(20);
        Doc.says("year 0 to 19", ClaimsBounds::costYears);
        Doc.says("@return the cost", ClaimsBounds::theCost);
        Doc.says("year is out of its range", ClaimsBounds::costOutside);
    }

    // ---- promise 11

    private static void ruledKinds() {
        CallClub x = Clubs.ofTonnages(10);
        for (int kind = CREW; kind <= POLLUTION; kind++) {
            x.claim(0, kind, 0, 1000, NONE);
        }
        x.rule(CREW, 0, 1, 10000000);
        x.rule(POLLUTION, 0, 30, 10000000);
        Check.equal("the first kind", x.ofEvent(0, 0), 999);
        Check.equal("not its neighbour", x.ofEvent(1, 0), 1000);
        Check.equal("not the neighbour of the last", x.ofEvent(2, 0), 1000);
        Check.equal("the last kind", x.ofEvent(3, 0), 970);
    }

    private static void ruledYears() {
        CallClub x = Clubs.ofTonnages(10);
        Clubs.passTo(x, 1999);
        x.claim(0, CREW, 0, 1000, NONE);
        x.claim(0, CREW, 1899, 1000, NONE);
        x.claim(0, CREW, 1900, 1000, NONE);
        x.rule(CREW, 19, 40, 10000000);
        Check.equal("not the first by the last", x.cost(0), 1000);
        Check.equal("not the one ahead of the last", x.cost(18), 1000);
        Check.equal("the last", x.cost(19), 960);
        x.rule(CREW, 0, 7, 10000000);
        Check.equal("the first", x.cost(0), 993);
        Check.equal("up to the one ahead of the last", x.cost(18), 993);
        Check.equal("not the last by the first", x.cost(19), 960);
    }

    private static void deductibles() {
        CallClub x = Clubs.ofTonnages(999);
        x.claim(0, CREW, 0, 1000001, NONE);
        x.rule(CREW, 0, 0, 10000000);
        Check.equal("0", x.cost(0), 1000001);
        x.rule(CREW, 0, 1, 10000000);
        Check.equal("1", x.cost(0), 1000000);
        x.rule(CREW, 0, 1000000, 10000000);
        Check.equal("1000000, less than the loss", x.cost(0), 1);
        x.estimate(0, 1000000);
        Check.equal("1000000, as the loss", x.cost(0), 0);
        x.estimate(0, 999999);
        Check.equal("1000000, more than the loss", x.cost(0), 0);
    }

    private static void limits() {
        CallClub x = Clubs.ofTonnages(999);
        x.claim(0, CREW, 0, 10000001, NONE);
        x.broken(0);
        x.rule(CREW, 0, 0, 10000000);
        Check.equal("10000000, less than the loss", x.cost(0), 10000000);
        x.estimate(0, 10000000);
        Check.equal("10000000, as the loss", x.cost(0), 10000000);
        x.estimate(0, 9999999);
        Check.equal("10000000, more than the loss", x.cost(0), 9999999);
        x.rule(CREW, 0, 0, 9999998);
        Check.equal("a limit below it", x.cost(0), 9999998);
        x.rule(CREW, 0, 0, 1);
        Check.equal("1", x.cost(0), 1);
        x.rule(CREW, 0, 0, 0);
        Check.equal("0", x.cost(0), 0);
    }

    private static void rulesOutside() {
        CallClub x = Clubs.ofTonnages(10);
        x.claim(0, CREW, 0, 1000, NONE);
        Refuses.outside(x, "kind", 0, 3, (c, v) -> c.rule(v, 0, 5, 900));
        Refuses.outsideYears(x, (c, v) -> c.rule(CREW, v, 5, 900));
        Refuses.outside(x, "deductible", 0, 1000000, (c, v) -> c.rule(CREW, 0, v, 900));
        Refuses.outside(x, "limit", 0, 10000000, (c, v) -> c.rule(CREW, 0, 5, v));
        Check.equal("no rule was told", x.cost(0), 1000);
    }

    private static void rulesClosed() {
        CallClub x = closedClub();
        Refuses.state(x, "closed", c -> c.rule(CREW, 0, 5, 900));
        x.rule(CREW, 1, 5, 900);
        Check.equal("the next year", x.cost(1), 895);
        Check.equal("the closed year", x.cost(0), 1000);
        CallClub y = Clubs.ofTonnages(10);
        y.claim(0, CREW, 0, 1000, NONE);
        y.pass(100);
        y.rule(CREW, 0, 5, 900);
        Check.equal("over, but open", y.cost(0), 895);
    }

    /** A club with a closed year, and a claim of 1000 in it and in the next. */
    private static CallClub closedClub() {
        CallClub x = Clubs.ofTonnages(10, 10);
        x.claim(0, CREW, 0, 1000, NONE);
        x.settle(0, false);
        x.pass(100);
        x.claim(0, CREW, 100, 1000, NONE);
        x.close(0);
        return x;
    }

    // ---- promise 12

    private static void pooledYears() {
        CallClub x = Clubs.ofTonnages(10);
        Clubs.passTo(x, 1999);
        int[] days = {99, 100, 1899, 1900};
        for (int day : days) {
            x.claim(0, CREW, day, 1000, NONE);
        }
        x.pool(0, 100, 1000, 0);
        x.pool(19, 200, 1000, 0);
        Check.equal("the first", x.cost(0), 100);
        Check.equal("not the one behind it", x.cost(1), 1000);
        Check.equal("not the one ahead of the last", x.cost(18), 1000);
        Check.equal("the last", x.cost(19), 200);
    }

    /** A club with an event on the day 0 that costs 10000000 for each of the claims. */
    private static CallClub largeEvent(int claims) {
        CallClub x = Clubs.ofTonnages(999, 999, 999);
        for (int i = 0; i < claims; i++) {
            x.claim(i / 4, i % 4, 0, LOSS, i == 0 ? NONE : 0);
            x.broken(i);
        }
        return x;
    }

    private static void retentions() {
        CallClub x = largeEvent(2);
        x.pool(0, 0, LOSS, 0);
        Check.equal("0", x.cost(0), 0);
        x.pool(0, 1, LOSS, 0);
        Check.equal("1", x.cost(0), 1);
        x.pool(0, 9999999, LOSS, 0);
        Check.equal("9999999", x.cost(0), 9999999);
        x.pool(0, 10000000, LOSS, 0);
        Check.equal("10000000", x.cost(0), 10000000);
        x.settle(1, true);
        Check.equal("as the cost", x.cost(0), 10000000);
        x.estimate(0, 9999999);
        Check.equal("above the cost", x.cost(0), 9999999);
    }

    private static void bounds() {
        CallClub x = largeEvent(11);
        Check.equal("without a pool", x.cost(0), 110000000);
        x.pool(0, 0, 100000000, 0);
        Check.equal("100000000, and the cost above it", x.cost(0), 10000000);
        x.pool(0, 0, 99999999, 0);
        Check.equal("99999999", x.cost(0), 10000001);
        x.settle(10, true);
        Check.equal("99999999, and the cost above it by 1", x.cost(0), 1);
        x.pool(0, 0, 100000000, 0);
        Check.equal("100000000, as the cost", x.cost(0), 0);
        x.pool(0, 5000, 5000, 0);
        Check.equal("as the retention", x.cost(0), 100000000);
        x.pool(0, 5000, 5001, 0);
        Check.equal("above the retention by 1", x.cost(0), 99999999);
        Refuses.argument(x, "below the retention by 1", c -> c.pool(0, 5000, 4999, 0));
        x.pool(0, 0, 0, 0);
        Check.equal("both 0", x.cost(0), 100000000);
        x.pool(0, 10000000, 10000000, 0);
        Check.equal("both the highest retention", x.cost(0), 100000000);
    }

    private static void shares() {
        CallClub x = Clubs.ofTonnages(10);
        x.claim(0, CREW, 0, 1199, NONE);
        x.pool(0, 100, 1100, 0);
        Check.equal("0", x.cost(0), 199);
        x.pool(0, 100, 1100, 1);
        Check.equal("1", x.cost(0), 209);
        x.pool(0, 100, 1100, 99);
        Check.equal("99", x.cost(0), 1189);
        x.pool(0, 100, 1100, 100);
        Check.equal("100", x.cost(0), 1199);
    }

    private static void poolsOutside() {
        CallClub x = Clubs.ofTonnages(10);
        x.claim(0, CREW, 0, 1000, NONE);
        Refuses.outsideYears(x, (c, v) -> c.pool(v, 5, 900, 50));
        Refuses.outside(x, "retention", 0, 10000000, (c, v) -> c.pool(0, v, LOSS, 50));
        Refuses.outside(x, "bound", 0, LOSS, (c, v) -> c.pool(0, 0, v, 50));
        Refuses.outside(x, "bound from the retention", 700, LOSS, (c, v) -> c.pool(0, 700, v, 50));
        Refuses.outside(x, "share", 0, 100, (c, v) -> c.pool(0, 5, 900, v));
        Check.equal("no pool was told", x.cost(0), 1000);
    }

    private static void poolsClosed() {
        CallClub x = closedClub();
        Refuses.state(x, "closed", c -> c.pool(0, 5, 900, 50));
        x.pool(1, 0, 1000, 50);
        Check.equal("the next year", x.cost(1), 500);
        Check.equal("the closed year", x.cost(0), 1000);
        CallClub y = Clubs.ofTonnages(10);
        y.claim(0, CREW, 0, 1000, NONE);
        y.pass(100);
        y.pool(0, 0, 1000, 50);
        Check.equal("over, but open", y.cost(0), 500);
    }

    // ---- promise 13

    private static void claimedKinds() {
        CallClub x = Clubs.ofTonnages(10);
        x.rule(CREW, 0, 1, 10000000);
        x.rule(POLLUTION, 0, 30, 10000000);
        x.claim(0, CREW, 0, 1000, NONE);
        x.claim(0, POLLUTION, 0, 1000, NONE);
        Check.equal("the first kind", x.ofEvent(0, 0), 999);
        Check.equal("the last kind", x.ofEvent(1, 0), 970);
    }

    private static void claimedDays() {
        CallClub x = Clubs.ofTonnages(10);
        Check.equal("today, the first day", x.claim(0, CREW, 0, 5, NONE), 0);
        Refuses.argument(x, "tomorrow of the first day", c -> c.claim(0, CREW, 1, 5, NONE));
        Clubs.passTo(x, 1999);
        Refuses.argument(x, "ahead of the first day", c -> c.claim(0, CREW, -1, 5, NONE));
        Check.equal("the first day", x.claim(0, CREW, 0, 5, NONE), 1);
        Check.equal("yesterday", x.claim(0, CREW, 1998, 5, NONE), 2);
        Check.equal("today, the last day", x.claim(0, CREW, 1999, 5, NONE), 3);
        Refuses.argument(x, "behind the last day", c -> c.claim(0, CREW, 2000, 5, NONE));
        Check.equal("its day", x.ofEvent(3, 2), 1999);
    }

    private static void claimedLosses() {
        CallClub x = Clubs.ofTonnages(10);
        x.claim(0, CREW, 0, 0, NONE);
        x.claim(0, CREW, 0, 1, NONE);
        x.claim(0, CREW, 0, 99999999, NONE);
        x.claim(0, CREW, 0, 100000000, NONE);
        Check.equal("0", x.ofClaim(0, 0), 0);
        Check.equal("1", x.ofClaim(1, 0), 1);
        Check.equal("99999999", x.ofClaim(2, 0), 99999999);
        Check.equal("100000000", x.ofClaim(3, 0), 100000000);
    }

    private static void claimsOfAnEvent() {
        CallClub x = Clubs.ofTonnages(10, 10);
        x.claim(0, CREW, 0, 5, NONE);
        x.claim(0, CREW, 0, 5, NONE);
        x.claim(1, CARGO, 0, 5, 0);
        x.claim(1, CARGO, 0, 5, 1);
        Check.equal("the first", x.ofClaim(2, 1), 0);
        Check.equal("the last", x.ofClaim(3, 1), 1);
        Check.equal("two claims", x.ofEvent(1, 3), 2);
        x.collide(0, 1, 50, 5, 5);
        x.claim(0, CREW, 0, 5, 2);
        Check.equal("of a collision", x.ofEvent(2, 3), 3);
    }

    private static void claimsOfNewEvents() {
        CallClub x = Clubs.ofTonnages(10);
        x.claim(0, CREW, 0, 5, -1);
        Check.equal("the first is 0", x.ofClaim(0, 1), 0);
        x.claim(0, CREW, 0, 5, NONE);
        Check.equal("the next, though all else is the same", x.ofClaim(1, 1), 1);
        Refuses.noSuchEvent(x, "event", 2, (c, v) -> c.ofEvent(v, 0));
    }

    private static void claimNumbers() {
        CallClub x = Clubs.ofTonnages(10, 10);
        Check.equal("the first", x.claim(1, CREW, 0, 5, NONE), 0);
        Check.equal("of the same event", x.claim(0, CREW, 0, 5, 0), 1);
        Check.equal("behind both", x.collide(0, 1, 50, 5, 5), 2);
        Check.equal("behind a collision", x.claim(0, CREW, 0, 5, NONE), 4);
    }

    private static void claimsOfNoShip() {
        CallClub x = new CallClub();
        x.member();
        Refuses.noSuch(x, "of none, ship", 0, (c, v) -> c.claim(v, CREW, 0, 5, NONE));
        x.ship(0, 5);
        x.ship(0, 5);
        Refuses.noSuch(x, "of two, ship", 2, (c, v) -> c.claim(v, CREW, 0, 5, NONE));
        Check.equal("the last one, not entered", x.claim(1, CREW, 0, 5, NONE), 0);
        Check.equal("the first one", x.claim(0, CREW, 0, 5, NONE), 1);
    }

    private static void claimsOfNoEvent() {
        CallClub x = Clubs.ofTonnages(10);
        Refuses.noSuchEvent(x, "of none, event", 0, (c, v) -> c.claim(0, CREW, 0, 5, v));
        x.claim(0, CREW, 0, 5, NONE);
        x.claim(0, CREW, 0, 5, 0);
        // There are two claims now, but one event.
        Refuses.noSuchEvent(x, "of one, event", 1, (c, v) -> c.claim(0, CREW, 0, 5, v));
        Check.equal("the last one", x.claim(0, CREW, 0, 5, 0), 2);
    }

    private static void claimsOutside() {
        CallClub x = Clubs.ofTonnages(10);
        x.pass(120);
        x.claim(0, CREW, 100, 5, NONE);
        Refuses.outside(x, "kind", 0, 3, (c, v) -> c.claim(0, v, 100, 5, NONE));
        Refuses.outside(x, "day", 0, 120, (c, v) -> c.claim(0, CREW, v, 5, NONE));
        Refuses.outside(x, "loss", 0, LOSS, (c, v) -> c.claim(0, CREW, 100, v, NONE));
        Refuses.outside(x, "of an event, kind", 0, 3, (c, v) -> c.claim(0, v, 100, 5, 0));
        Refuses.outside(x, "of an event, loss", 0, LOSS, (c, v) -> c.claim(0, CREW, 100, v, 0));
        Check.equal("nothing was told", x.claim(0, CREW, 100, 5, NONE), 1);
    }

    private static void claimsOfAnotherDay() {
        CallClub x = Clubs.ofTonnages(10);
        x.pass(50);
        x.claim(0, CREW, 30, 5, NONE);
        Refuses.argument(x, "the day ahead", c -> c.claim(0, CREW, 29, 5, 0));
        Refuses.argument(x, "the day behind", c -> c.claim(0, CREW, 31, 5, 0));
        Refuses.argument(x, "today", c -> c.claim(0, CREW, 50, 5, 0));
        Check.equal("its day", x.claim(0, CREW, 30, 5, 0), 1);
        x.claim(0, CREW, 31, 5, NONE);
        Refuses.argument(x, "the day of another event", c -> c.claim(0, CREW, 31, 5, 0));
        Check.equal("of the other event", x.claim(0, CREW, 31, 5, 1), 3);
    }

    private static void claimsOfAClosedYear() {
        CallClub x = closedClub();
        Refuses.state(x, "its first day", c -> c.claim(1, CREW, 0, 5, NONE));
        Refuses.state(x, "its last day", c -> c.claim(1, CREW, 99, 5, NONE));
        Refuses.state(x, "of an event in it", c -> c.claim(1, CREW, 0, 5, 0));
        Check.equal("the first day of the next", x.claim(1, CREW, 100, 5, NONE), 2);
        Check.equal("of an event of the next", x.claim(1, CREW, 100, 5, 1), 3);
        CallClub y = Clubs.ofTonnages(10);
        y.pass(100);
        Check.equal("over, but open", y.claim(0, CREW, 99, 5, NONE), 0);
    }

    private static CallClub withClaims(int claims) {
        CallClub x = Clubs.ofTonnages(10, 10);
        for (int i = 0; i < claims; i++) {
            x.claim(0, CREW, 0, 5, NONE);
        }
        return x;
    }

    private static void sixtyClaims() {
        CallClub x = withClaims(59);
        Check.equal("the 60th", x.claim(0, CREW, 0, 5, NONE), 59);
        Refuses.state(x, "a 61st", c -> c.claim(0, CREW, 0, 5, NONE));
        Refuses.state(x, "a 61st of an event", c -> c.claim(0, CREW, 0, 5, 59));
        x.settle(0, true);
        Refuses.state(x, "none becomes free", c -> c.claim(0, CREW, 0, 5, NONE));
        Check.equal("the 60th is there", x.estimate(59, 7), 5);
        Refuses.index(x, "the 61st is not", c -> c.ofClaim(60, 0));
        Refuses.index(x, "nor its event", c -> c.ofEvent(60, 0));
        CallClub y = withClaims(59);
        Check.equal("the 60th of an event", y.claim(0, CREW, 0, 5, 0), 59);
        Refuses.state(y, "a 61st though there are 59 events", c -> c.claim(0, CREW, 0, 5, NONE));
    }

    // ---- promise 14

    private static void collidesToday() {
        CallClub x = Clubs.ofTonnages(10, 10);
        x.collide(0, 1, 50, 5, 5);
        Check.equal("the first day", x.ofEvent(0, 2), 0);
        Clubs.passTo(x, 1999);
        x.collide(0, 1, 50, 5, 5);
        Check.equal("the last day", x.ofEvent(1, 2), 1999);
        Check.equal("covered today", x.ofClaim(2, 2), 1);
        x.leave(0);
        Check.equal("the ship that left today is not", x.ofClaim(2, 2), 0);
        Check.equal("the other one is", x.ofClaim(3, 2), 1);
    }

    private static void collidesWithAnother() {
        CallClub x = Clubs.ofTonnages(10, 10);
        x.ship(0, 5);
        Check.equal("of another member", x.collide(0, 1, 50, 5, 5), 0);
        Check.equal("the other way round", x.collide(1, 0, 50, 5, 5), 2);
        Check.equal("a sister, not entered", x.collide(0, 2, 50, 5, 5), 4);
    }

    private static void faults() {
        CallClub x = Clubs.ofTonnages(10, 10);
        int[] faults = {0, 1, 99, 100};
        int[] firsts = {0, 20, 1980, 2000};
        int[] seconds = {1000, 990, 10, 0};
        for (int i = 0; i < 4; i++) {
            x.collide(0, 1, faults[i], 1000, 2000);
            Check.equal("the first one's claim, fault " + faults[i], x.ofClaim(2 * i, 0), firsts[i]);
            Check.equal("the second one's claim, fault " + faults[i], x.ofClaim(2 * i + 1, 0), seconds[i]);
        }
    }

    private static void lossesOfTheFirst() {
        CallClub x = Clubs.ofTonnages(10, 10);
        int[] losses = {0, 1, 99999999, 100000000};
        for (int i = 0; i < 4; i++) {
            x.collide(0, 1, 0, losses[i], 7);
            Check.equal("all of " + losses[i], x.ofClaim(2 * i + 1, 0), losses[i]);
            Check.equal("nothing of the second one's", x.ofClaim(2 * i, 0), 0);
        }
    }

    private static void lossesOfTheSecond() {
        CallClub x = Clubs.ofTonnages(10, 10);
        int[] losses = {0, 1, 99999999, 100000000};
        for (int i = 0; i < 4; i++) {
            x.collide(0, 1, 100, 7, losses[i]);
            Check.equal("all of " + losses[i], x.ofClaim(2 * i, 0), losses[i]);
            Check.equal("nothing of the first one's", x.ofClaim(2 * i + 1, 0), 0);
        }
    }

    private static void theNextClaim() {
        CallClub x = Clubs.ofTonnages(10, 10);
        x.claim(0, CREW, 0, 5, NONE);
        Check.equal("of the first one", x.collide(1, 0, 25, 1000, 2000), 1);
        Check.equal("its loss", x.ofClaim(1, 0), 500);
        Check.equal("the next", x.ofClaim(2, 0), 750);
        Check.equal("the event of both", x.ofClaim(2, 1), x.ofClaim(1, 1));
        Refuses.index(x, "no third one", c -> c.ofClaim(3, 0));
    }

    private static void collidesNoShip() {
        CallClub x = new CallClub();
        x.member();
        Refuses.noSuch(x, "of none, ship", 0, (c, v) -> c.collide(v, 0, 50, 5, 5));
        x.ship(0, 5);
        Refuses.noSuch(x, "of one, second", 1, (c, v) -> c.collide(0, v, 50, 5, 5));
        x.ship(0, 5);
        Refuses.noSuch(x, "of two, first", 2, (c, v) -> c.collide(v, 1, 50, 5, 5));
        Refuses.noSuch(x, "of two, second", 2, (c, v) -> c.collide(1, v, 50, 5, 5));
        Refuses.noSuch(x, "of two, both", 2, (c, v) -> c.collide(v, v, 50, 5, 5));
        Check.equal("the last and the first one", x.collide(1, 0, 50, 5, 5), 0);
    }

    private static void collidesWithItself() {
        CallClub x = Clubs.ofTonnages(10, 10);
        Refuses.argument(x, "the first", c -> c.collide(0, 0, 50, 5, 5));
        Refuses.argument(x, "the last", c -> c.collide(1, 1, 50, 5, 5));
        Check.equal("nothing was told", x.collide(1, 0, 50, 5, 5), 0);
    }

    private static void collidesOutside() {
        CallClub x = Clubs.ofTonnages(10, 10);
        Refuses.outside(x, "fault", 0, 100, (c, v) -> c.collide(0, 1, v, 5, 5));
        Refuses.outside(x, "loss", 0, LOSS, (c, v) -> c.collide(0, 1, 50, v, 5));
        Refuses.outside(x, "other", 0, LOSS, (c, v) -> c.collide(0, 1, 50, 5, v));
        Refuses.index(x, "nothing was told", c -> c.ofClaim(0, 0));
    }

    private static void fiftyEightClaims() {
        CallClub x = withClaims(58);
        Check.equal("58", x.collide(0, 1, 50, 10, 10), 58);
        Refuses.state(x, "60", c -> c.collide(0, 1, 50, 10, 10));
        Check.equal("the last one is there", x.ofClaim(59, 0), 5);
        CallClub y = withClaims(59);
        Refuses.state(y, "59", c -> c.collide(0, 1, 50, 10, 10));
        Refuses.index(y, "no claim more", c -> c.ofClaim(59, 0));
        Refuses.index(y, "no event more", c -> c.ofEvent(59, 0));
        Check.equal("59, a claim alone", y.claim(0, CREW, 0, 5, NONE), 59);
        CallClub z = withClaims(57);
        Check.equal("57", z.collide(0, 1, 50, 10, 10), 57);
        Refuses.state(z, "59 by a collision", c -> c.collide(0, 1, 50, 10, 10));
    }

    // ---- promises 15 to 17

    private static void estimates() {
        CallClub x = Clubs.ofTonnages(10);
        x.claim(0, CREW, 0, 5, NONE);
        int[] losses = {0, 1, 99999999, 100000000};
        for (int loss : losses) {
            x.estimate(0, loss);
            Check.equal("" + loss, x.ofClaim(0, 0), loss);
        }
        x.estimate(0, 49999);
        Check.equal("what counts is below the limitation", x.cost(0), 49999);
        x.estimate(0, 50001);
        Check.equal("what counts is the limitation", x.cost(0), 50000);
    }

    private static void lossBefore() {
        CallClub x = Clubs.ofTonnages(10, 10);
        x.claim(0, CREW, 0, 5, NONE);
        Check.equal("as told", x.estimate(0, 100000000), 5);
        Check.equal("as estimated", x.estimate(0, 0), 100000000);
        Check.equal("0", x.estimate(0, 0), 0);
        x.collide(0, 1, 10, 99, 99);
        Check.equal("as collided", x.estimate(1, 3), 9);
        Check.equal("as collided, of the other", x.estimate(2, 3), 89);
    }

    private static void estimatesNoClaim() {
        CallClub x = Clubs.ofTonnages(10);
        Refuses.noSuch(x, "of none, claim", 0, (c, v) -> c.estimate(v, 7));
        x.claim(0, CREW, 0, 5, NONE);
        x.claim(0, CREW, 0, 6, NONE);
        Refuses.noSuch(x, "of two, claim", 2, (c, v) -> c.estimate(v, 7));
        Check.equal("the last one", x.estimate(1, 7), 6);
        Check.equal("the first one", x.estimate(0, 7), 5);
    }

    private static void estimatesOutside() {
        CallClub x = withClaims(1);
        Refuses.outside(x, "loss", 0, LOSS, (c, v) -> c.estimate(0, v));
        Check.equal("as it was", x.estimate(0, LOSS), 5);
    }

    private static void estimatesSettled() {
        CallClub x = withClaims(3);
        x.settle(0, false);
        x.settle(1, true);
        Refuses.state(x, "settled", c -> c.estimate(0, 7));
        Refuses.state(x, "settled, the same loss", c -> c.estimate(0, 5));
        Refuses.state(x, "struck", c -> c.estimate(1, 7));
        Check.equal("another one", x.estimate(2, 7), 5);
    }

    private static void settlesOrStrikes() {
        CallClub x = withClaims(3);
        x.settle(0, false);
        x.settle(1, true);
        Check.equal("settled keeps its loss", x.ofClaim(0, 0), 5);
        Check.equal("settled is settled", x.ofClaim(0, 3), 1);
        Check.equal("struck has the loss 0", x.ofClaim(1, 0), 0);
        Check.equal("struck is settled", x.ofClaim(1, 3), 1);
        Check.equal("another one keeps its loss", x.ofClaim(2, 0), 5);
        Check.equal("another one is not settled", x.ofClaim(2, 3), 0);
    }

    private static void settlesNoClaim() {
        CallClub x = Clubs.ofTonnages(10);
        Refuses.noSuch(x, "of none, claim", 0, (c, v) -> c.settle(v, false));
        x.claim(0, CREW, 0, 5, NONE);
        x.claim(0, CREW, 0, 5, NONE);
        Refuses.noSuch(x, "of two, claim", 2, (c, v) -> c.settle(v, true));
        x.settle(1, false);
        Check.equal("the last one", x.ofClaim(1, 3), 1);
        Check.equal("not the first one", x.ofClaim(0, 3), 0);
    }

    private static void settlesSettled() {
        CallClub x = withClaims(3);
        x.settle(0, false);
        x.settle(1, true);
        Refuses.state(x, "settled, settled again", c -> c.settle(0, false));
        Refuses.state(x, "settled, struck then", c -> c.settle(0, true));
        Refuses.state(x, "struck, settled then", c -> c.settle(1, false));
        Refuses.state(x, "struck, struck again", c -> c.settle(1, true));
        x.settle(2, true);
        Check.equal("one that is not", x.ofClaim(2, 3), 1);
    }

    private static void breaksNoClaim() {
        CallClub x = Clubs.ofTonnages(1);
        Refuses.noSuch(x, "of none, claim", 0, (c, v) -> c.broken(v));
        x.claim(0, CREW, 0, 5001, NONE);
        x.claim(0, CREW, 0, 5001, NONE);
        Refuses.noSuch(x, "of two, claim", 2, (c, v) -> c.broken(v));
        x.broken(1);
        Check.equal("the last one", x.ofClaim(1, 5), 5001);
        Check.equal("not the first one", x.ofClaim(0, 5), 5000);
    }

    private static void breaksSettled() {
        CallClub x = Clubs.ofTonnages(1);
        x.claim(0, CREW, 0, 5001, NONE);
        x.claim(0, CREW, 0, 5001, NONE);
        x.claim(0, CREW, 0, 5001, NONE);
        x.settle(0, false);
        x.settle(1, true);
        Refuses.state(x, "settled", c -> c.broken(0));
        Refuses.state(x, "struck", c -> c.broken(1));
        Check.equal("limited as it was", x.ofClaim(0, 5), 5000);
        x.broken(2);
        x.settle(2, false);
        Check.equal("broken ahead of the settling", x.ofClaim(2, 5), 5001);
        Refuses.state(x, "settled and broken", c -> c.broken(2));
    }

    private static void breaksBroken() {
        CallClub x = withClaims(2);
        x.broken(0);
        Refuses.state(x, "broken", c -> c.broken(0));
        x.estimate(0, 60000);
        Refuses.state(x, "broken and estimated", c -> c.broken(0));
        Check.equal("broken once", x.ofClaim(0, 5), 60000);
        x.broken(1);
    }

    // ---- promise 18

    private static void lossOfClaim() {
        CallClub x = Clubs.ofShips(1);
        x.claim(0, CREW, 0, LOSS, NONE);
        Check.equal("not covered, above the limitation", x.ofClaim(0, 0), LOSS);
        x.estimate(0, 0);
        Check.equal("none", x.ofClaim(0, 0), 0);
    }

    private static void eventOfClaim() {
        CallClub x = withClaims(60);
        Check.equal("the first", x.ofClaim(0, 1), 0);
        Check.equal("the last", x.ofClaim(59, 1), 59);
        CallClub y = withClaims(1);
        y.claim(0, CARGO, 0, 5, 0);
        Check.equal("of the same", y.ofClaim(1, 1), 0);
    }

    private static void coverOfClaim() {
        CallClub x = Clubs.ofShips(10, 10);
        x.enter(0);
        x.claim(0, CREW, 0, 5, NONE);
        x.claim(1, CREW, 0, 5, NONE);
        Check.equal("covered", x.ofClaim(0, 2), 1);
        Check.equal("not covered", x.ofClaim(1, 2), 0);
        x.enter(1);
        Check.equal("entered on the same day", x.ofClaim(1, 2), 1);
    }

    private static void settledOfClaim() {
        CallClub x = withClaims(2);
        x.settle(0, false);
        Check.equal("settled", x.ofClaim(0, 3), 1);
        Check.equal("not settled", x.ofClaim(1, 3), 0);
    }

    private static void lettersOfClaim() {
        CallClub x = withClaims(2);
        Check.equal("none", x.ofClaim(0, 4), 0);
        x.letter(0, 4);
        Check.equal("one", x.ofClaim(0, 4), 4);
        x.letter(0, 1);
        Check.equal("added up", x.ofClaim(0, 4), 5);
        Check.equal("not of the other", x.ofClaim(1, 4), 0);
    }

    private static void countsOfClaim() {
        CallClub x = Clubs.ofShips(1, 1);
        x.enter(0);
        x.claim(0, CREW, 0, 5001, NONE);
        x.claim(1, CREW, 0, 5001, NONE);
        Check.equal("at most the limitation", x.ofClaim(0, 5), 5000);
        Check.equal("not covered", x.ofClaim(1, 5), 0);
        x.broken(0);
        x.broken(1);
        Check.equal("broken", x.ofClaim(0, 5), 5001);
        Check.equal("broken, not covered", x.ofClaim(1, 5), 0);
        x.rule(CREW, 0, 5001, 10);
        Check.equal("rules are of the event", x.ofClaim(0, 5), 5001);
    }

    private static void asksNoClaim() {
        CallClub x = withClaims(2);
        Refuses.noSuch(x, "claim", 2, (c, v) -> c.ofClaim(v, 0));
        Check.equal("the last one", x.ofClaim(1, 0), 5);
    }

    private static void asksOutsideOfClaim() {
        CallClub x = withClaims(2);
        Refuses.outside(x, "what", 0, 5, (c, v) -> c.ofClaim(0, v));
        Check.equal("the first", x.ofClaim(1, 0), 5);
        Check.equal("the last", x.ofClaim(1, 5), 5);
    }

    // ---- promises 19 and 20

    private static void costOfEvent() {
        CallClub x = Clubs.ofTonnages(10);
        x.claim(0, CREW, 0, 0, NONE);
        Check.equal("nothing", x.ofEvent(0, 0), 0);
        x.claim(0, CARGO, 0, 7, 0);
        Check.equal("another kind", x.ofEvent(0, 0), 7);
        x.pool(0, 0, 100, 0);
        Check.equal("not less by the pool", x.ofEvent(0, 0), 7);
    }

    private static void borneOfEvent() {
        CallClub x = Clubs.ofTonnages(10);
        x.claim(0, CREW, 0, 50, NONE);
        Check.equal("without a pool all", x.ofEvent(0, 1), 50);
        x.pool(0, 0, 100, 0);
        Check.equal("nothing", x.ofEvent(0, 1), 0);
        x.pool(0, 49, 100, 0);
        Check.equal("the retention", x.ofEvent(0, 1), 49);
    }

    private static void dayOfEvent() {
        CallClub x = Clubs.ofTonnages(10);
        x.claim(0, CREW, 0, 5, NONE);
        Clubs.passTo(x, 1999);
        x.claim(0, CREW, 1999, 5, NONE);
        x.claim(0, CREW, 99, 5, NONE);
        Check.equal("the first day", x.ofEvent(0, 2), 0);
        Check.equal("the last day", x.ofEvent(1, 2), 1999);
        Check.equal("told later", x.ofEvent(2, 2), 99);
    }

    private static void claimsOfEvent() {
        CallClub x = withClaims(1);
        Check.equal("one", x.ofEvent(0, 3), 1);
        for (int i = 1; i < 60; i++) {
            x.claim(0, CREW, 0, 5, 0);
        }
        Check.equal("60", x.ofEvent(0, 3), 60);
        x.settle(0, true);
        Check.equal("60 with one that is struck", x.ofEvent(0, 3), 60);
        CallClub y = Clubs.ofShips(10, 10);
        y.collide(0, 1, 100, 0, 0);
        Check.equal("two of a collision, without losses and covers", y.ofEvent(0, 3), 2);
    }

    private static void asksNoEvent() {
        CallClub x = Clubs.ofTonnages(10, 10);
        Refuses.noSuch(x, "of none, event", 0, (c, v) -> c.ofEvent(v, 0));
        x.collide(0, 1, 50, 10, 10);
        // There are two claims now, but one event.
        Refuses.noSuch(x, "of one, event", 1, (c, v) -> c.ofEvent(v, 0));
        Check.equal("the last one", x.ofEvent(0, 0), 10);
    }

    private static void asksOutsideOfEvent() {
        CallClub x = withClaims(2);
        Refuses.outside(x, "what", 0, 3, (c, v) -> c.ofEvent(0, v));
        Check.equal("the first", x.ofEvent(1, 0), 5);
        Check.equal("the last", x.ofEvent(1, 3), 1);
    }

    private static void costYears() {
        CallClub x = Clubs.ofTonnages(10);
        Clubs.passTo(x, 1999);
        x.claim(0, CREW, 99, 5, NONE);
        x.claim(0, CREW, 1900, 70, NONE);
        Check.equal("the first", x.cost(0), 5);
        Check.equal("the one behind it", x.cost(1), 0);
        Check.equal("the one ahead of the last", x.cost(18), 0);
        Check.equal("the last", x.cost(19), 70);
    }

    private static void theCost() {
        CallClub x = Clubs.ofTonnages(999);
        Check.equal("without claims", x.cost(0), 0);
        for (int i = 0; i < 60; i++) {
            x.claim(0, COLLISION, 0, LOSS, NONE);
            x.broken(i);
        }
        Check.equal("the highest", x.cost(0), 600000000);
        Clubs.settle(x, 0, 60);
        Check.equal("the highest, settled", x.cost(0), 600000000);
        x.pass(100);
        x.close(0);
        Check.equal("the highest, closed", x.cost(0), 600000000);
    }

    private static void costOutside() {
        CallClub x = withClaims(1);
        Refuses.outsideYears(x, (c, v) -> c.cost(v));
    }
}
