/** The terms of rules and claims, sentence by sentence. */
final class TermsClaimsBounds {
    private static final int NONE = CallClub.NONE;
    private static final int CREW = CallClub.CREW;
    private static final int CARGO = CallClub.CARGO;
    private static final int COLLISION = CallClub.COLLISION;
    private static final int POLLUTION = CallClub.POLLUTION;

    private TermsClaimsBounds() {
    }

    static void all() {
        Doc.terms();
        rules();
        claims();
        costs();
    }

    private static void rules() {
        Doc.says("There are the kinds 0 CREW, 1 CARGO, 2 COLLISION, 3 POLLUTION", TermsClaimsBounds::kinds);
        Doc.says("as they were told for the latest year not behind that", TermsClaimsBounds::latestYear);
        Doc.says("0 and 10000000 without", TermsClaimsBounds::withoutRules);
    }

    private static void claims() {
        Doc.says("Claims are numbered from 0, at most 60", TermsClaimsBounds::claimNumbers);
        Doc.says("has a loss, which can be estimated anew, until it is settled", TermsClaimsBounds::untilSettled);
        Doc.says("to strike one is to settle it with the loss 0", TermsClaimsBounds::struck);
        Doc.says("Events are numbered from 0", TermsClaimsBounds::eventNumbers);
        Doc.says("all claims of an event are of one day", TermsClaimsBounds::oneDay);
        Doc.says("if its ship was entered on its day", TermsClaimsBounds::coveredIfEntered);
        Doc.says("is not stopped back to that day, or one ahead", TermsClaimsBounds::coveredIfNotStopped);
        Doc.says("at most 5000 times the tonnage of its ship", TermsClaimsBounds::limitation);
        Doc.says("unless its limitation is broken", TermsClaimsBounds::limitationBroken);
        Doc.says("of one that is not covered 0", TermsClaimsBounds::notCovered);
    }

    private static void costs() {
        Doc.says("Of the claims of one event, one ship and one kind, what counts is taken together",
                TermsClaimsBounds::takenTogether);
        Doc.says("at most the limit", TermsClaimsBounds::atMostTheLimit);
        Doc.says("less the deductible, at least 0", TermsClaimsBounds::lessTheDeductible);
        Doc.says("by the rules of the year", TermsClaimsBounds::rulesOfTheYear);
        Doc.says("The cost of an event is the sum of all this", TermsClaimsBounds::costOfAnEvent);
        Doc.says("The year of an event is that of its day", TermsClaimsBounds::yearOfAnEvent);
        Doc.says("told before the year is closed, the latest counting", TermsClaimsBounds::latestPool);
        Doc.says("its cost up to the retention", TermsClaimsBounds::retention);
        Doc.says("the share of what is above that up to the bound (that divided by 100 once)",
                TermsClaimsBounds::share);
        Doc.says("all above the bound", TermsClaimsBounds::aboveTheBound);
        Doc.says("without a pool all", TermsClaimsBounds::withoutAPool);
        Doc.says("The cost of a year is the sum of what the club bears of its events", TermsClaimsBounds::costOfAYear);
        Doc.says("the claim of the first ship is that many hundredths of the loss of the second one",
                TermsClaimsBounds::claimOfTheFirst);
        Doc.says("that of the second ship the other hundredths of the loss of the first one",
                TermsClaimsBounds::claimOfTheSecond);
        Doc.says("they are one event, of the kind COLLISION", TermsClaimsBounds::oneEvent);
    }

    // ---- rules

    private static void kinds() {
        Check.equal("CREW", CREW, 0);
        Check.equal("CARGO", CARGO, 1);
        Check.equal("COLLISION", COLLISION, 2);
        Check.equal("POLLUTION", POLLUTION, 3);
        CallClub x = Clubs.ofTonnages(10);
        Refuses.outside(x, "rule, kind", 0, 3, (c, v) -> c.rule(v, 0, 0, 0));
        Refuses.outside(x, "claim, kind", 0, 3, (c, v) -> c.claim(0, v, 0, 5, NONE));
        for (int kind = 0; kind < 4; kind++) {
            x.rule(kind, 0, kind, 10000000);
            x.claim(0, kind, 0, 100, NONE);
            Check.equal("kind " + kind, x.ofEvent(kind, 0), 100 - kind);
        }
    }

    private static void latestYear() {
        CallClub x = Clubs.ofTonnages(10);
        Clubs.passTo(x, 1999);
        int[] days = {0, 499, 500, 899, 900, 1999};
        for (int day : days) {
            x.claim(0, CREW, day, 100, NONE);
        }
        x.rule(CREW, 9, 9, 10000000);
        x.rule(CREW, 5, 5, 10000000);
        Check.equal("ahead of all rules", x.cost(0), 100);
        Check.equal("the year ahead of the rule", x.cost(4), 100);
        Check.equal("its year", x.cost(5), 95);
        Check.equal("the year ahead of the next rule", x.cost(8), 95);
        Check.equal("the year of the next rule, though told earlier", x.cost(9), 91);
        Check.equal("the last year", x.cost(19), 91);
        x.rule(CREW, 5, 50, 10000000);
        Check.equal("told anew", x.cost(5), 50);
        Check.equal("not where a later year counts", x.cost(9), 91);
        x.rule(CREW, 5, 0, 10000000);
        Check.equal("told as without", x.cost(5), 100);
        x.rule(CREW, 0, 1, 10000000);
        Check.equal("one for an earlier year does not count", x.cost(5), 100);
        Check.equal("it counts for its own", x.cost(4), 99);
        Check.equal("both numbers are of one rule", limitOfALaterRule(), 100);
    }

    /** An earlier deductible and a later limit: the later rule counts whole. */
    private static long limitOfALaterRule() {
        CallClub x = Clubs.ofTonnages(10);
        x.pass(100);
        x.rule(CREW, 0, 70, 500);
        x.rule(CREW, 1, 0, 100);
        x.claim(0, CREW, 100, 1000, NONE);
        return x.cost(1);
    }

    private static void withoutRules() {
        CallClub x = Clubs.ofTonnages(10);
        x.claim(0, CREW, 0, 1, NONE);
        Check.equal("no deductible", x.cost(0), 1);
        x.broken(0);
        x.estimate(0, 9999999);
        Check.equal("below the limit", x.cost(0), 9999999);
        x.estimate(0, 10000000);
        Check.equal("as the limit", x.cost(0), 10000000);
        x.estimate(0, 10000001);
        Check.equal("above the limit", x.cost(0), 10000000);
        x.estimate(0, 100000000);
        Check.equal("far above the limit", x.cost(0), 10000000);
    }

    // ---- claims

    private static void claimNumbers() {
        CallClub x = Clubs.ofTonnages(10);
        for (int i = 0; i < 60; i++) {
            Check.equal("claim " + i, x.claim(0, CREW, 0, i, NONE), i);
        }
        Refuses.state(x, "a 61st", c -> c.claim(0, CREW, 0, 5, NONE));
        Check.equal("the last one can be arrested for", x.arrest(0, 59), true);
        Check.equal("all of them", x.cost(0), 1770);
    }

    private static void untilSettled() {
        CallClub x = Clubs.ofTonnages(10);
        x.claim(0, CREW, 0, 5, NONE);
        Check.equal("estimated", x.estimate(0, 6), 5);
        Check.equal("and again", x.estimate(0, 7), 6);
        x.settle(0, false);
        Refuses.state(x, "settled", c -> c.estimate(0, 8));
        Check.equal("the last estimate", x.ofClaim(0, 0), 7);
    }

    private static void struck() {
        CallClub x = Clubs.ofTonnages(10);
        x.claim(0, CREW, 0, 5, NONE);
        x.settle(0, true);
        Check.equal("the loss", x.ofClaim(0, 0), 0);
        Check.equal("settled", x.ofClaim(0, 3), 1);
        Check.equal("what counts", x.ofClaim(0, 5), 0);
        Check.equal("the cost", x.cost(0), 0);
        Check.equal("the claim is there", x.ofEvent(0, 3), 1);
        x.pass(100);
        Check.equal("the year can be closed", x.close(0), 0);
    }

    private static void eventNumbers() {
        CallClub x = Clubs.ofTonnages(10, 10);
        Refuses.noSuchEvent(x, "none, event", 0, (c, v) -> c.claim(0, CREW, 0, 5, v));
        x.claim(0, CREW, 0, 5, NONE);
        x.collide(0, 1, 50, 5, 5);
        x.claim(0, CREW, 0, 5, 0);
        x.claim(0, CREW, 0, 5, NONE);
        Check.equal("the first", x.ofClaim(0, 1), 0);
        Check.equal("a collision makes one", x.ofClaim(2, 1), 1);
        Check.equal("of the first", x.ofClaim(3, 1), 0);
        Check.equal("the next", x.ofClaim(4, 1), 2);
        Refuses.noSuchEvent(x, "three, event", 3, (c, v) -> c.ofEvent(v, 0));
    }

    private static void oneDay() {
        CallClub x = Clubs.ofTonnages(10, 10);
        x.pass(20);
        x.claim(0, CREW, 10, 5, NONE);
        Refuses.argument(x, "a day ahead", c -> c.claim(1, CARGO, 9, 5, 0));
        Refuses.argument(x, "a day behind", c -> c.claim(1, CARGO, 11, 5, 0));
        Check.equal("its day", x.claim(1, CARGO, 10, 5, 0), 1);
        x.collide(0, 1, 50, 5, 5);
        Refuses.argument(x, "a day ahead of a collision", c -> c.claim(0, CREW, 19, 5, 1));
        Check.equal("the day of the collision", x.claim(0, CREW, 20, 5, 1), 4);
    }

    private static void coveredIfEntered() {
        CallClub x = Clubs.ofShips(10, 10);
        x.enter(1);
        x.pass(10);
        x.enter(0);
        x.pass(10);
        x.leave(0);
        x.pass(10);
        int[] days = {9, 10, 19, 20};
        int[] covers = {0, 1, 1, 0};
        for (int i = 0; i < 4; i++) {
            x.claim(0, CREW, days[i], 5, NONE);
            Check.equal("the day " + days[i], x.ofClaim(i, 2), covers[i]);
        }
        x.claim(1, CREW, 9, 5, 0);
        Check.equal("another ship of the event", x.ofClaim(4, 2), 1);
    }

    private static void coveredIfNotStopped() {
        CallClub x = Clubs.ofTonnages(10, 10);
        x.enter(x.ship(0, 10));
        x.advance(0, 1000);
        x.pass(30);
        int[] days = {0, 19, 20, 21, 30};
        for (int day : days) {
            x.claim(0, CREW, day, 5, NONE);
        }
        x.stop(0, 20);
        x.claim(2, CREW, 20, 5, NONE);
        x.claim(1, CREW, 20, 5, NONE);
        int[] covers = {1, 1, 0, 0, 0, 0, 1};
        for (int claim = 0; claim < covers.length; claim++) {
            Check.equal("stopped back to 20, claim " + claim, x.ofClaim(claim, 2), covers[claim]);
        }
        x.stop(0, 0);
        Check.equal("stopped back to 0, the day 0", x.ofClaim(0, 2), 0);
        x.stop(0, 30);
        Check.equal("stopped back to today, yesterday", x.ofClaim(3, 2), 1);
        Check.equal("stopped back to today, today", x.ofClaim(4, 2), 0);
        x.pass(1);
        Check.equal("told behind the stop", x.ofClaim(x.claim(0, CREW, 31, 5, NONE), 2), 0);
    }

    private static void limitation() {
        int[] tonnages = {1, 2, 999};
        for (int tonnage : tonnages) {
            CallClub x = Clubs.ofTonnages(tonnage);
            int most = 5000 * tonnage;
            x.claim(0, CREW, 0, most - 1, NONE);
            Check.equal("below", x.ofClaim(0, 5), most - 1);
            x.estimate(0, most);
            Check.equal("as much", x.ofClaim(0, 5), most);
            x.estimate(0, most + 1);
            Check.equal("above", x.ofClaim(0, 5), most);
            x.estimate(0, 100000000);
            Check.equal("the highest", x.ofClaim(0, 5), most);
            Check.equal("the loss is as told", x.ofClaim(0, 0), 100000000);
        }
    }

    private static void limitationBroken() {
        CallClub x = Clubs.ofTonnages(1);
        x.claim(0, CREW, 0, 5001, NONE);
        x.claim(0, CREW, 0, 5001, 0);
        Check.equal("of both", x.ofEvent(0, 0), 10000);
        x.broken(0);
        Check.equal("of one", x.ofEvent(0, 0), 10001);
        x.estimate(0, 100000000);
        Check.equal("the highest", x.ofClaim(0, 5), 100000000);
        x.estimate(0, 5000);
        Check.equal("below the limitation", x.ofClaim(0, 5), 5000);
    }

    private static void notCovered() {
        CallClub x = Clubs.ofShips(10);
        x.claim(0, CREW, 0, 1, NONE);
        x.claim(0, CREW, 0, 100000000, NONE);
        x.broken(1);
        Check.equal("the least", x.ofClaim(0, 5), 0);
        Check.equal("the highest, broken", x.ofClaim(1, 5), 0);
        Check.equal("the cost", x.cost(0), 0);
        x.enter(0);
        Check.equal("entered on that day", x.cost(0), 10000001);
    }

    // ---- costs

    private static void takenTogether() {
        CallClub x = Clubs.ofTonnages(10, 10);
        x.enter(x.ship(0, 10));
        x.rule(CREW, 0, 100, 10000000);
        x.rule(CARGO, 0, 100, 10000000);
        x.claim(0, CREW, 0, 60, NONE);
        x.claim(0, CREW, 0, 60, 0);
        Check.equal("one event, ship and kind", x.ofEvent(0, 0), 20);
        x.claim(0, CARGO, 0, 60, 0);
        Check.equal("another kind by itself", x.ofEvent(0, 0), 20);
        x.claim(1, CREW, 0, 60, 0);
        Check.equal("another ship by itself", x.ofEvent(0, 0), 20);
        x.claim(2, CREW, 0, 60, 0);
        Check.equal("a sister by itself", x.ofEvent(0, 0), 20);
        x.claim(0, CREW, 0, 60, NONE);
        Check.equal("another event by itself", x.cost(0), 20);
        x.claim(0, CREW, 0, 1, 0);
        Check.equal("a third one of the first event", x.cost(0), 21);
    }

    private static void atMostTheLimit() {
        CallClub x = Clubs.ofTonnages(10, 10);
        x.rule(CREW, 0, 0, 100);
        x.claim(0, CREW, 0, 50, NONE);
        x.claim(0, CREW, 0, 49, 0);
        Check.equal("below", x.cost(0), 99);
        x.estimate(1, 50);
        Check.equal("as much", x.cost(0), 100);
        x.estimate(1, 51);
        Check.equal("above", x.cost(0), 100);
        x.claim(1, CREW, 0, 101, 0);
        Check.equal("a limit for each ship", x.cost(0), 200);
        x.claim(0, CREW, 0, 101, NONE);
        Check.equal("a limit for each event", x.cost(0), 300);
        x.rule(CREW, 0, 0, 0);
        Check.equal("the limit 0", x.cost(0), 0);
    }

    private static void lessTheDeductible() {
        CallClub x = Clubs.ofTonnages(10);
        x.rule(CREW, 0, 30, 100);
        int[] losses = {0, 29, 30, 31, 99, 100, 101, 130};
        int[] costs = {0, 0, 0, 1, 69, 70, 70, 70};
        x.claim(0, CREW, 0, 0, NONE);
        for (int i = 0; i < losses.length; i++) {
            x.estimate(0, losses[i]);
            Check.equal("the loss " + losses[i], x.cost(0), costs[i]);
        }
        x.rule(CREW, 0, 100, 100);
        Check.equal("as the limit", x.cost(0), 0);
        x.rule(CREW, 0, 101, 100);
        Check.equal("above the limit", x.cost(0), 0);
        x.claim(0, CREW, 0, 700, NONE);
        Check.equal("never less than 0 for the other", x.cost(0), 0);
    }

    private static void rulesOfTheYear() {
        CallClub x = Clubs.ofTonnages(10);
        x.pass(100);
        x.rule(CREW, 0, 1, 10000000);
        x.rule(CREW, 1, 20, 10000000);
        x.claim(0, CREW, 99, 100, NONE);
        x.claim(0, CREW, 100, 100, NONE);
        Check.equal("of its day, not of today", x.ofEvent(0, 0), 99);
        Check.equal("of the next day", x.ofEvent(1, 0), 80);
        x.pass(100);
        x.rule(CREW, 2, 50, 10000000);
        Check.equal("not of a year behind it", x.ofEvent(1, 0), 80);
    }

    private static void costOfAnEvent() {
        CallClub x = Clubs.ofTonnages(10, 10);
        x.claim(0, CREW, 0, 1, NONE);
        x.claim(0, CARGO, 0, 20, 0);
        x.claim(1, CREW, 0, 300, 0);
        x.claim(1, POLLUTION, 0, 4000, 0);
        Check.equal("all ships and kinds", x.ofEvent(0, 0), 4321);
        x.leave(1);
        Check.equal("those that are covered", x.ofEvent(0, 0), 21);
        x.settle(0, false);
        x.settle(1, true);
        Check.equal("settled ones too", x.ofEvent(0, 0), 1);
    }

    private static void yearOfAnEvent() {
        CallClub x = Clubs.ofTonnages(10);
        x.pass(150);
        x.claim(0, CREW, 99, 5, NONE);
        x.claim(0, CREW, 100, 70, NONE);
        Check.equal("not that of the telling", x.cost(0), 5);
        Check.equal("the day behind", x.cost(1), 70);
    }

    private static void latestPool() {
        CallClub x = Clubs.ofTonnages(10);
        x.claim(0, CREW, 0, 1000, NONE);
        x.pool(0, 100, 1000, 0);
        Check.equal("told behind the claim", x.cost(0), 100);
        x.pool(0, 0, 500, 10);
        Check.equal("the latest, whole", x.cost(0), 550);
        x.pass(100);
        x.pool(0, 200, 1000, 0);
        Check.equal("when the year is over", x.cost(0), 200);
        x.settle(0, false);
        x.close(0);
        Refuses.state(x, "closed", c -> c.pool(0, 0, 0, 0));
        Check.equal("stays", x.cost(0), 200);
    }

    /** What the club bears of an event of that cost, with a pool from 100 to 200 of 33 hundredths. */
    private static long borne(int cost) {
        CallClub x = Clubs.ofTonnages(10);
        x.pool(0, 100, 200, 33);
        x.claim(0, CREW, 0, cost, NONE);
        return x.ofEvent(0, 1);
    }

    private static void retention() {
        Check.equal("0", borne(0), 0);
        Check.equal("99", borne(99), 99);
        Check.equal("100", borne(100), 100);
    }

    private static void share() {
        Check.equal("1 above, 0.33", borne(101), 100);
        Check.equal("3 above, 0.99", borne(103), 100);
        Check.equal("4 above, 1.32", borne(104), 101);
        Check.equal("99 above, 32.67", borne(199), 132);
        Check.equal("100 above", borne(200), 133);
        CallClub x = Clubs.ofTonnages(10, 10);
        x.pool(0, 0, 1000, 50);
        x.claim(0, CREW, 0, 1, NONE);
        x.claim(1, CREW, 0, 1, 0);
        Check.equal("divided once for the event", x.ofEvent(0, 1), 1);
    }

    private static void aboveTheBound() {
        Check.equal("1 above", borne(201), 134);
        Check.equal("far above", borne(50000), 49933);
    }

    private static void withoutAPool() {
        CallClub x = Clubs.ofTonnages(10);
        x.pass(200);
        x.pool(1, 0, 1000, 0);
        x.claim(0, CREW, 99, 7, NONE);
        x.claim(0, CREW, 100, 7, NONE);
        x.claim(0, CREW, 200, 7, NONE);
        Check.equal("the year ahead of one with a pool", x.cost(0), 7);
        Check.equal("the year with a pool", x.cost(1), 0);
        Check.equal("the year behind one with a pool", x.cost(2), 7);
    }

    private static void costOfAYear() {
        CallClub x = Clubs.ofTonnages(10);
        x.pool(0, 100, 200, 0);
        x.claim(0, CREW, 0, 100, NONE);
        x.claim(0, CREW, 0, 101, NONE);
        x.claim(0, CREW, 0, 201, NONE);
        Check.equal("each event by itself", x.cost(0), 301);
        CallClub y = Clubs.ofTonnages(10);
        y.pool(0, 100, 200, 0);
        y.claim(0, CREW, 0, 100, NONE);
        y.claim(0, CARGO, 0, 101, 0);
        y.claim(0, POLLUTION, 0, 201, 0);
        Check.equal("one event", y.cost(0), 302);
    }

    private static long firstOf(int fault, int loss, int other, int which) {
        CallClub x = Clubs.ofTonnages(10, 10);
        return x.ofClaim(x.collide(0, 1, fault, loss, other) + which, 0);
    }

    private static void claimOfTheFirst() {
        Check.equal("no fault", firstOf(0, 500, 700, 0), 0);
        Check.equal("1", firstOf(1, 500, 700, 0), 7);
        Check.equal("99", firstOf(99, 500, 700, 0), 693);
        Check.equal("all the fault", firstOf(100, 500, 700, 0), 700);
        Check.equal("rounded down, 0.99", firstOf(1, 500, 99, 0), 0);
        Check.equal("of nothing", firstOf(100, 500, 0, 0), 0);
        Check.equal("of the highest", firstOf(99, 0, 100000000, 0), 99000000);
    }

    private static void claimOfTheSecond() {
        Check.equal("all the fault of the other", firstOf(100, 500, 700, 1), 0);
        Check.equal("99 of the other", firstOf(99, 500, 700, 1), 5);
        Check.equal("1 of the other", firstOf(1, 500, 700, 1), 495);
        Check.equal("no fault of the other", firstOf(0, 500, 700, 1), 500);
        Check.equal("rounded down, 0.99", firstOf(99, 99, 700, 1), 0);
        Check.equal("of nothing", firstOf(0, 0, 700, 1), 0);
        Check.equal("of the highest", firstOf(1, 100000000, 0, 1), 99000000);
    }

    private static void oneEvent() {
        CallClub x = Clubs.ofTonnages(10, 10);
        x.rule(COLLISION, 0, 7, 10000000);
        x.rule(CREW, 0, 1000000, 0);
        x.rule(CARGO, 0, 1000000, 0);
        x.rule(POLLUTION, 0, 1000000, 0);
        x.collide(0, 1, 50, 100, 100);
        Check.equal("both", x.ofEvent(0, 3), 2);
        Check.equal("a deductible each, of COLLISION", x.ofEvent(0, 0), 86);
        Refuses.index(x, "no second event", c -> c.ofEvent(1, 0));
        x.claim(0, COLLISION, 0, 20, 0);
        Check.equal("together with another of the kind", x.ofEvent(0, 0), 106);
    }
}
