/** The terms of calls, closing, letters and arrests, sentence by sentence. */
final class TermsClosingBounds {
    private static final int NONE = CallClub.NONE;
    private static final int CREW = CallClub.CREW;

    private TermsClosingBounds() {
    }

    static void all() {
        Doc.terms();
        duesAndReleases();
        closing();
        stops();
        arrests();
    }

    private static void duesAndReleases() {
        Doc.says("so many cents for each 1000 of weight, 0 at first", TermsClosingBounds::advanceOfAYear);
        Doc.says("a further call adds hundredths of it", TermsClosingBounds::furtherCall);
        Doc.says("its weight times the advance, divided by 1000, and that times all further hundredths, divided by 100",
                TermsClosingBounds::dueOfAnOpenYear);
        Doc.says("Who has no ship entered can be released", TermsClosingBounds::noShipEntered);
        Doc.says("for each open year in which it has a weight", TermsClosingBounds::eachOpenYear);
        Doc.says("from then on and for ever", TermsClosingBounds::releasedForEver);
        Doc.says("times the hundredths of the release, divided by 100, besides", TermsClosingBounds::besides);
        Doc.says("it is in none of the further calls, nor in the closing, of these years",
                TermsClosingBounds::inNoneOfThem);
    }

    private static void closing() {
        Doc.says("A year can be closed, when it is over", TermsClosingBounds::whenOver);
        Doc.says("those ahead of it are closed", TermsClosingBounds::thoseAhead);
        Doc.says("all its claims are settled", TermsClosingBounds::allSettled);
        Doc.says("What is due of all who were released in it is taken off its cost", TermsClosingBounds::takenOff);
        Doc.says("all others who have a weight in it", TermsClosingBounds::allOthers);
        Doc.says("divided by the weights of all of these, rounded down also below 0",
                TermsClosingBounds::roundedDownBelowZero);
        Doc.says("the lowest of them 1 more each, one after the other, until it is all borne",
                TermsClosingBounds::oneMoreEach);
        Doc.says("That is what is due of them then, for ever", TermsClosingBounds::dueForEver);
        Doc.says("Without any of these the reserve of the club is less by the rest", TermsClosingBounds::reserveLess);
        Doc.says("(more, if that is below 0)", TermsClosingBounds::reserveMore);
        Doc.says("Ratings, rules, pools, advances and further calls of a closed year do not change any more",
                TermsClosingBounds::closedDoesNotChange);
        Doc.says("nor are there new claims in it", TermsClosingBounds::noNewClaims);
        Doc.says("nor is a ship entered on its days", TermsClosingBounds::noNewEntries);
    }

    private static void stops() {
        Doc.says("What a member owes is all that is due of it, less all that it paid", TermsClosingBounds::owes);
        Doc.says("perhaps below 0", TermsClosingBounds::owesBelowZero);
        Doc.says("Of a member that owes something, its cover can be stopped back to a day",
                TermsClosingBounds::owesSomething);
        Doc.says("As soon as it pays so that it owes nothing, the stop is gone", TermsClosingBounds::paysAll);
        Doc.says("as if it had never been", TermsClosingBounds::asIfNever);
        Doc.says("not, if what is due becomes less otherwise", TermsClosingBounds::notOtherwise);
        Doc.says("As covers change, so do costs of years that are open", TermsClosingBounds::openCostsChange);
        Doc.says("claims of closed years stay covered, or not, as they were when the year was closed",
                TermsClosingBounds::closedCoversStay);
    }

    private static void arrests() {
        Doc.says("A letter of undertaking is for a claim, with cents", TermsClosingBounds::letterForAClaim);
        Doc.says("those of one claim are added up", TermsClosingBounds::lettersAddedUp);
        Doc.says("for a claim of a sister, a ship of the same member, or its own", TermsClosingBounds::sisters);
        Doc.says("it is arrested as long as that claim is not settled", TermsClosingBounds::untilSettled);
        Doc.says("its letters are less than its loss", TermsClosingBounds::untilLetters);
        Doc.says("so once more, if they become less by an estimate", TermsClosingBounds::onceMore);
    }

    // ---- dues and releases

    private static void advanceOfAYear() {
        CallClub x = Clubs.ofShips(1, 10);
        x.enter(1);
        x.pass(1);
        x.leave(1);
        Check.equal("0 at first", x.due(1, 0), 0);
        x.advance(0, 99);
        Check.equal("a weight of 10, 0.99", x.due(1, 0), 0);
        x.advance(0, 100);
        Check.equal("a weight of 10, 1", x.due(1, 0), 1);
        Check.equal("no weight", x.due(0, 0), 0);
        x.advance(0, 1000000);
        Check.equal("a weight of 10, the highest", x.due(1, 0), 10000);
        x.advance(0, 0);
        Check.equal("0 again", x.due(1, 0), 0);
    }

    private static void furtherCall() {
        CallClub x = Clubs.ofTonnages(10);
        x.advance(0, 100);
        x.further(0, 1);
        Check.equal("one", x.due(0, 0), 101);
        x.further(0, 50);
        Check.equal("one more", x.due(0, 0), 151);
        x.advance(0, 1000);
        Check.equal("of an advance told anew", x.due(0, 0), 1510);
        x.advance(0, 0);
        Check.equal("of none", x.due(0, 0), 0);
    }

    private static void dueOfAnOpenYear() {
        CallClub x = Clubs.ofTonnages(19, 10);
        x.advance(0, 1);
        Check.equal("1.9 of advance", x.due(0, 0), 1);
        x.further(0, 100);
        Check.equal("all of the rounded advance besides, not 3.8", x.due(0, 0), 2);
        x.advance(0, 10);
        x.further(0, 5);
        x.further(0, 5);
        Check.equal("19 and 110 hundredths together, 20.9, not divided apart", x.due(0, 0), 39);
        Check.equal("10 and 110 hundredths together", x.due(1, 0), 21);
    }

    private static void noShipEntered() {
        CallClub x = Clubs.ofTonnages(10, 10);
        x.ship(0, 5);
        x.pass(1);
        Refuses.state(x, "one ship", c -> c.release(0, 0));
        x.leave(0);
        x.enter(2);
        Refuses.state(x, "another ship", c -> c.release(0, 0));
        x.leave(2);
        Check.equal("none", x.release(0, 0), 1);
    }

    private static void eachOpenYear() {
        CallClub x = Clubs.ofTonnages(10, 10);
        for (int year = 0; year < 5; year++) {
            x.advance(year, 100);
        }
        Clubs.passTo(x, 200);
        x.leave(0);
        Clubs.passTo(x, 300);
        x.enter(0);
        Clubs.passTo(x, 350);
        x.leave(0);
        x.close(0);
        Check.equal("the years 1 and 3", x.release(0, 100), 2);
        Check.equal("a closed year", x.due(0, 0), 0);
        Check.equal("the first open year", x.due(0, 1), 200);
        Check.equal("a year without a weight", x.due(0, 2), 0);
        Check.equal("the year of today", x.due(0, 3), 100);
        Check.equal("a year to come", x.due(0, 4), 0);
        Check.equal("rated where it was not released", x.rate(0, 2, 200), 100);
        Refuses.state(x, "rated where it was", c -> c.rate(0, 3, 200));
    }

    private static void releasedForEver() {
        CallClub x = Clubs.ofTonnages(10, 10);
        x.advance(0, 1000);
        x.further(0, 10);
        x.claim(1, CREW, 0, 70, NONE);
        x.pass(50);
        x.leave(0);
        Check.equal("ahead of it", x.due(0, 0), 550);
        x.release(0, 0);
        Check.equal("as it was", x.due(0, 0), 550);
        x.further(0, 200);
        Check.equal("behind a further call", x.due(0, 0), 550);
        x.settle(0, false);
        x.pass(50);
        x.enter(0);
        Check.equal("entered in the next year", x.due(0, 0), 550);
        x.close(0);
        Check.equal("behind the closing", x.due(0, 0), 550);
        x.pass(50);
        x.leave(0);
        Check.equal("released of the next year alone", x.release(0, 200), 1);
        Check.equal("behind another release", x.due(0, 0), 550);
    }

    private static void besides() {
        CallClub x = Clubs.ofTonnages(19, 19);
        x.advance(0, 1);
        x.pass(100);
        x.leave(0);
        x.leave(1);
        x.further(0, 100);
        x.release(0, 99);
        Check.equal("99 hundredths of the rounded advance, not 1.88", x.due(0, 0), 2);
        x.release(1, 100);
        Check.equal("100 hundredths of it, not of the further calls", x.due(1, 0), 3);
    }

    private static void inNoneOfThem() {
        CallClub x = Clubs.ofTonnages(10, 10, 10);
        x.advance(0, 1000);
        x.pass(100);
        x.leave(0);
        x.release(0, 50);
        x.further(0, 100);
        Check.equal("the further call", x.due(0, 0), 1500);
        Check.equal("the others are in it", x.due(1, 0), 2000);
        x.claim(1, CREW, 0, 3500, NONE);
        x.settle(0, false);
        x.close(0);
        Check.equal("the closing", x.due(0, 0), 1500);
        Check.equal("half of the rest", x.due(1, 0), 1000);
        Check.equal("the other half", x.due(2, 0), 1000);
    }

    // ---- closing

    private static void whenOver() {
        CallClub x = Clubs.ofTonnages(10);
        Refuses.state(x, "its first day", c -> c.close(0));
        Clubs.passTo(x, 99);
        Refuses.state(x, "its last day", c -> c.close(0));
        x.pass(1);
        Check.equal("the day behind", x.close(0), 0);
        Clubs.passTo(x, 199);
        Refuses.state(x, "the last day of the next", c -> c.close(1));
        x.pass(1);
        Check.equal("the day behind the next", x.close(1), 0);
    }

    private static void thoseAhead() {
        CallClub x = Clubs.ofTonnages(10);
        Clubs.passTo(x, 300);
        Refuses.state(x, "two are open", c -> c.close(2));
        x.close(0);
        Refuses.state(x, "one is open", c -> c.close(2));
        x.close(1);
        Check.equal("none is open", x.close(2), 0);
    }

    private static void allSettled() {
        CallClub x = Clubs.ofTonnages(10);
        x.claim(0, CREW, 0, 5, NONE);
        x.claim(0, CREW, 0, 0, 0);
        Clubs.passTo(x, 150);
        x.claim(0, CREW, 99, 5, NONE);
        x.claim(0, CREW, 100, 5, NONE);
        for (int claim = 0; claim < 3; claim++) {
            Refuses.state(x, "claim " + claim + " is not", c -> c.close(0));
            x.settle(claim, claim == 2);
        }
        Check.equal("all are, but one of the next year", x.close(0), 5);
    }

    private static void takenOff() {
        CallClub x = Clubs.ofTonnages(10, 10, 10);
        x.advance(0, 100);
        x.claim(2, CREW, 0, 250, NONE);
        x.settle(0, false);
        x.pass(100);
        x.leave(0);
        x.leave(1);
        x.release(0, 0);
        x.release(1, 10);
        Check.equal("the cost", x.close(0), 250);
        Check.equal("250 less 100 less 110", x.due(2, 0), 40);
        Check.equal("sums to nothing", x.result(0), 0);
    }

    private static void allOthers() {
        CallClub x = Clubs.ofTonnages(1, 10, 10);
        x.member();
        x.claim(1, CREW, 0, 7, NONE);
        x.settle(0, false);
        x.pass(9);
        x.leave(0);
        x.rate(0, 0, 10);
        x.pass(91);
        Check.equal("a weight of 0", x.weight(0, 0), 0);
        x.close(0);
        Check.equal("without a weight", x.due(0, 0), 0);
        Check.equal("with one, and the lowest", x.due(1, 0), 4);
        Check.equal("with one", x.due(2, 0), 3);
        Check.equal("without a ship", x.due(3, 0), 0);
        CallClub y = Clubs.ofTonnages(1, 999);
        y.claim(1, CREW, 0, 1000, NONE);
        y.settle(0, false);
        y.pass(100);
        y.close(0);
        Check.equal("by weights, the least", y.due(0, 0), 1);
        Check.equal("by weights, the largest", y.due(1, 0), 999);
        CallClub z = Clubs.ofTonnages(1);
        z.claim(0, CREW, 0, 5, NONE);
        z.settle(0, false);
        z.pass(1);
        z.leave(0);
        z.pass(99);
        z.close(0);
        Check.equal("a weight of 1 alone", z.due(0, 0), 5);
        Check.equal("nothing for the reserve", z.reserve(), 0);
    }

    /** Eleven members with the same weight and a released one, of whom 1 is due, of a year with the cost told. */
    private static CallClub closedTwelve(int cost) {
        CallClub x = Clubs.ofTonnages(10, 10, 10, 10, 10, 10, 10, 10, 10, 10, 10, 10);
        x.advance(0, 1);
        x.claim(0, CREW, 0, cost, NONE);
        x.settle(0, false);
        x.pass(100);
        x.leave(5);
        x.release(5, 0);
        x.close(0);
        Check.equal("of the released", x.due(5, 0), 1);
        Check.equal("sums to nothing", x.result(0), 0);
        Check.equal("nothing for the reserve", x.reserve(), 0);
        return x;
    }

    private static void bears(int cost, int... dues) {
        CallClub x = closedTwelve(cost);
        for (int member = 0; member < 12; member++) {
            Check.equal("of " + cost + ", member " + member, x.due(member, 0), dues[member]);
        }
    }

    private static void roundedDownBelowZero() {
        // The member 5 was released, and 1 is due of it; the rest is -1, 0 and 11.
        bears(0, 0, 0, 0, 0, 0, 1, 0, 0, 0, 0, 0, -1);
        bears(1, 0, 0, 0, 0, 0, 1, 0, 0, 0, 0, 0, 0);
        bears(12, 1, 1, 1, 1, 1, 1, 1, 1, 1, 1, 1, 1);
        CallClub x = Clubs.ofTonnages(10, 10, 20, 20);
        x.advance(0, 1000);
        x.pass(100);
        x.leave(3);
        x.rate(3, 0, 100);
        x.release(3, 0);
        x.close(0);
        Check.equal("a quarter of -2000", x.due(0, 0), -500);
        Check.equal("a half of -2000", x.due(2, 0), -1000);
    }

    private static void oneMoreEach() {
        // The member 5 was released, and 1 is due of it; the rest is 1, 6, 10 and 12.
        bears(2, 1, 0, 0, 0, 0, 1, 0, 0, 0, 0, 0, 0);
        bears(7, 1, 1, 1, 1, 1, 1, 1, 0, 0, 0, 0, 0);
        bears(11, 1, 1, 1, 1, 1, 1, 1, 1, 1, 1, 1, 0);
        bears(13, 2, 1, 1, 1, 1, 1, 1, 1, 1, 1, 1, 1);
        CallClub x = Clubs.ofTonnages(30, 10, 20);
        x.claim(0, CREW, 0, 8, NONE);
        x.settle(0, false);
        x.pass(100);
        x.close(0);
        // 4, 1.33 and 2.67: one is left, and the lowest bears it, though nothing of it was rounded off.
        Check.equal("the lowest", x.due(0, 0), 5);
        Check.equal("the next", x.due(1, 0), 1);
        Check.equal("the last", x.due(2, 0), 2);
    }

    private static void dueForEver() {
        CallClub x = Clubs.ofTonnages(10, 10);
        x.advance(0, 1000);
        x.advance(1, 1000);
        x.claim(0, CREW, 0, 7, NONE);
        x.settle(0, false);
        x.pass(100);
        x.close(0);
        x.rate(0, 1, 500);
        x.further(1, 100);
        x.leave(1);
        x.pay(0, 5);
        x.member();
        x.pass(100);
        x.close(1);
        Check.equal("of the first", x.due(0, 0), 4);
        Check.equal("of the second", x.due(1, 0), 3);
        Check.equal("of one who came later", x.due(2, 0), 0);
    }

    private static void reserveLess() {
        CallClub x = Clubs.ofTonnages(1, 1);
        x.claim(0, CREW, 0, 5, NONE);
        x.settle(0, false);
        x.pass(9);
        x.leave(0);
        x.leave(1);
        x.rate(0, 0, 10);
        x.rate(1, 0, 10);
        Check.equal("covered, without a weight", x.cost(0), 5);
        x.pass(91);
        x.close(0);
        Check.equal("less by the cost", x.reserve(), -5);
        Check.equal("due of none", x.due(0, 0), 0);
        Check.equal("the result", x.result(0), -5);
        x.pass(100);
        x.close(1);
        Check.equal("not by a rest of 0", x.reserve(), -5);
    }

    private static void reserveMore() {
        CallClub x = Clubs.ofTonnages(10);
        x.advance(0, 1000);
        x.claim(0, CREW, 0, 999, NONE);
        x.settle(0, false);
        x.pass(100);
        x.leave(0);
        x.release(0, 0);
        x.close(0);
        Check.equal("more by 1", x.reserve(), 1);
        Check.equal("the result", x.result(0), 1);
        CallClub y = Clubs.ofTonnages(10, 1);
        y.advance(0, 1000);
        y.pass(100);
        y.leave(0);
        y.release(0, 0);
        y.close(0);
        Check.equal("not, if there is one of these", y.reserve(), 0);
        Check.equal("that one has it", y.due(1, 0), -1000);
    }

    private static CallClub closedClub() {
        CallClub x = Clubs.ofTonnages(10, 10);
        x.advance(0, 1000);
        x.claim(0, CREW, 0, 700, NONE);
        x.settle(0, false);
        x.pass(100);
        x.claim(0, CREW, 100, 700, NONE);
        x.close(0);
        return x;
    }

    private static void closedDoesNotChange() {
        CallClub x = closedClub();
        Refuses.state(x, "rating", c -> c.rate(0, 0, 200));
        Refuses.state(x, "rule", c -> c.rule(CREW, 0, 10, 100));
        Refuses.state(x, "pool", c -> c.pool(0, 0, 1000, 0));
        Refuses.state(x, "advance", c -> c.advance(0, 5));
        Refuses.state(x, "further", c -> c.further(0, 5));
        Check.equal("rating of the next", x.rate(0, 1, 200), 100);
        x.rule(CREW, 1, 10, 100);
        x.pool(1, 0, 1000, 0);
        Check.equal("advance of the next", x.advance(1, 5), 0);
        Check.equal("further of the next", x.further(1, 5), 5);
        Check.equal("the weight", x.weight(0, 0), 1000);
        Check.equal("the cost", x.cost(0), 700);
        Check.equal("the due", x.due(0, 0), 350);
    }

    private static void noNewClaims() {
        CallClub x = closedClub();
        Refuses.state(x, "its last day", c -> c.claim(0, CREW, 99, 5, NONE));
        Refuses.state(x, "of its event", c -> c.claim(0, CREW, 0, 5, 0));
        Check.equal("the next day", x.claim(0, CREW, 100, 5, NONE), 2);
        Check.equal("a collision today", x.collide(0, 1, 50, 5, 5), 3);
        Check.equal("the cost", x.cost(0), 700);
        Check.equal("how many claims its event has", x.ofEvent(0, 3), 1);
    }

    private static void noNewEntries() {
        CallClub x = closedClub();
        x.enter(x.ship(0, 7));
        Check.equal("not on its days", x.weight(0, 0), 1000);
        Check.equal("on those of the next", x.weight(0, 1), 1700);
        Check.equal("what is due stays", x.due(0, 0), 350);
    }

    // ---- stops

    private static void owes() {
        CallClub x = Clubs.ofTonnages(10);
        x.advance(0, 100);
        x.advance(5, 20);
        x.advance(19, 3);
        Check.equal("all years", x.owes(0), 123);
        x.pay(0, 23);
        Check.equal("less what it paid", x.owes(0), 100);
        x.pay(0, 40);
        Check.equal("less all of that", x.owes(0), 60);
        x.pass(100);
        x.close(0);
        Check.equal("with what is due of a closed year", x.owes(0), -40);
        x.leave(0);
        Check.equal("of those to come, nothing when it leaves", x.owes(0), -63);
    }

    private static void owesBelowZero() {
        CallClub x = Clubs.ofTonnages(10);
        x.advance(0, 100);
        Check.equal("100", x.pay(0, 100), 0);
        Check.equal("101", x.pay(0, 1), -1);
        Check.equal("the same", x.owes(0), -1);
    }

    private static void owesSomething() {
        CallClub x = Clubs.ofTonnages(10);
        x.pass(10);
        Refuses.state(x, "nothing", c -> c.stop(0, 10));
        x.advance(19, 1);
        Check.equal("1, of the last year", x.stop(0, 10), NONE);
        x.pay(0, 1);
        Refuses.state(x, "nothing again", c -> c.stop(0, 10));
        x.pay(0, 1);
        Refuses.state(x, "less than nothing", c -> c.stop(0, 10));
    }

    /** Three members who owe 1000, each with a claim of the day 5, all stopped back to the day 5. */
    private static CallClub stoppedClub() {
        CallClub x = Clubs.ofTonnages(10, 10, 10);
        x.advance(0, 1000);
        x.pass(10);
        for (int member = 0; member < 3; member++) {
            x.claim(member, CREW, 5, 700, NONE);
            x.stop(member, 5);
        }
        return x;
    }

    private static void paysAll() {
        CallClub x = stoppedClub();
        x.pay(0, 999);
        Check.equal("owes 1", x.ofClaim(0, 2), 0);
        x.pay(0, 1);
        Check.equal("owes nothing", x.ofClaim(0, 2), 1);
        x.pay(1, 1001);
        Check.equal("owes less than nothing", x.ofClaim(1, 2), 1);
        Check.equal("another one", x.ofClaim(2, 2), 0);
    }

    private static void asIfNever() {
        CallClub x = stoppedClub();
        x.claim(0, CREW, 10, 40, NONE);
        x.pay(0, 1000);
        Check.equal("of the days of the stop", x.ofEvent(0, 0), 700);
        Check.equal("of today", x.ofEvent(3, 0), 40);
        x.advance(0, 2000);
        Check.equal("not back, when it owes again", x.ofClaim(0, 2), 1);
        Check.equal("without a stop before", x.stop(0, 10), NONE);
        Check.equal("ahead of the new stop", x.ofClaim(0, 2), 1);
        Check.equal("on the day of the new stop", x.ofClaim(3, 2), 0);
    }

    private static void notOtherwise() {
        CallClub x = stoppedClub();
        x.advance(0, 0);
        Check.equal("owes nothing by the advance", x.owes(0), 0);
        Check.equal("stopped by the advance", x.ofClaim(0, 2), 0);
        x.pay(0, 1);
        Check.equal("pays so that it owes less than nothing", x.ofClaim(0, 2), 1);
        Check.equal("another that does not pay", x.ofClaim(1, 2), 0);
        CallClub y = Clubs.ofTonnages(10);
        y.advance(1, 1000);
        y.claim(0, CREW, 0, 700, NONE);
        y.stop(0, 0);
        y.leave(0);
        y.enter(0);
        Check.equal("stopped, though it left in between", y.ofClaim(0, 2), 0);
        y.rate(0, 1, 10);
        y.pay(0, 99);
        Check.equal("owes 1 by the rating and by paying", y.ofClaim(0, 2), 0);
        Check.equal("the stop stands", y.stop(0, 0), 0);
        CallClub z = stoppedClub();
        Clubs.settle(z, 0, 3);
        Clubs.passTo(z, 150);
        z.claim(0, CREW, 149, 5, NONE);
        z.close(0);
        Check.equal("owes nothing by the closing", z.owes(0), 0);
        Check.equal("stopped by the closing", z.ofClaim(3, 2), 0);
        z.pay(0, 1);
        Check.equal("gone then for the open year", z.ofClaim(3, 2), 1);
        Check.equal("not for the closed one", z.ofClaim(0, 2), 0);
    }

    private static void openCostsChange() {
        CallClub x = stoppedClub();
        Check.equal("all stopped", x.cost(0), 0);
        x.stop(0, 6);
        Check.equal("one stopped behind it", x.cost(0), 700);
        x.pay(1, 1000);
        Check.equal("one that paid", x.cost(0), 1400);
        x.stop(0, 5);
        Check.equal("stopped again", x.cost(0), 700);
        x.claim(1, CREW, 10, 40, NONE);
        Check.equal("today", x.cost(0), 740);
        x.leave(1);
        Check.equal("left today", x.cost(0), 700);
        x.enter(1);
        Check.equal("entered again today", x.cost(0), 740);
        Clubs.passTo(x, 100);
        x.stop(2, 20);
        Check.equal("over, but open", x.cost(0), 1440);
    }

    private static void closedCoversStay() {
        CallClub x = stoppedClub();
        x.advance(1, 5000);
        x.pay(1, 6000);
        Clubs.settle(x, 0, 3);
        Clubs.passTo(x, 150);
        x.claim(0, CREW, 100, 40, NONE);
        x.claim(1, CREW, 100, 3, NONE);
        Check.equal("one of three", x.close(0), 700);
        x.pay(0, 100000);
        Check.equal("not covered, though the stop is gone", x.ofClaim(0, 2), 0);
        Check.equal("it counts 0", x.ofClaim(0, 5), 0);
        Check.equal("covered, in the open year", x.ofClaim(3, 2), 1);
        x.further(1, 200);
        x.stop(1, 0);
        Check.equal("covered, though stopped then", x.ofClaim(1, 2), 1);
        Check.equal("it counts", x.ofClaim(1, 5), 700);
        Check.equal("not covered, in the open year", x.ofClaim(4, 2), 0);
        Check.equal("the cost of the closed year", x.cost(0), 700);
        Check.equal("the cost of the event", x.ofEvent(1, 0), 700);
        Check.equal("the cost of the open year", x.cost(1), 40);
    }

    // ---- letters and arrests

    private static CallClub withLoss(int loss) {
        CallClub x = Clubs.ofTonnages(10, 10);
        x.ship(0, 10);
        x.claim(0, CREW, 0, loss, NONE);
        return x;
    }

    private static void letterForAClaim() {
        CallClub x = withLoss(100);
        x.claim(0, CREW, 0, 100, 0);
        x.letter(0, 100);
        Check.equal("of that claim", x.ofClaim(0, 4), 100);
        Check.equal("not of another one of the event", x.ofClaim(1, 4), 0);
        Check.equal("it costs nothing", x.cost(0), 200);
    }

    private static void lettersAddedUp() {
        CallClub x = withLoss(100);
        Check.equal("one", x.letter(0, 1), 1);
        Check.equal("two", x.letter(0, 98), 99);
        Refuses.state(x, "above the loss", c -> c.letter(0, 2));
        Check.equal("three", x.letter(0, 1), 100);
    }

    private static void sisters() {
        CallClub x = withLoss(100);
        Check.equal("its own", x.arrest(0, 0), true);
        Check.equal("a sister", x.arrest(2, 0), true);
        Refuses.state(x, "another member's", c -> c.arrest(1, 0));
        x.leave(0);
        Check.equal("a sister, as the ship of the claim left", x.isArrested(2), true);
    }

    private static void untilSettled() {
        CallClub x = withLoss(100);
        x.claim(0, CREW, 0, 100, NONE);
        x.arrest(0, 0);
        x.arrest(2, 0);
        x.arrest(2, 1);
        x.settle(0, false);
        Check.equal("settled", x.isArrested(0), false);
        Check.equal("for another claim", x.isArrested(2), true);
        x.settle(1, true);
        Check.equal("struck", x.isArrested(2), false);
        Refuses.state(x, "never again for a settled one", c -> c.arrest(0, 0));
    }

    private static void untilLetters() {
        CallClub x = withLoss(100);
        x.arrest(2, 0);
        x.letter(0, 99);
        Check.equal("less by 1", x.isArrested(2), true);
        x.letter(0, 1);
        Check.equal("as much", x.isArrested(2), false);
        CallClub y = withLoss(100);
        y.arrest(2, 0);
        y.estimate(0, 0);
        Check.equal("no loss any more", y.isArrested(2), false);
        y.estimate(0, 1);
        Check.equal("the loss 1", y.isArrested(2), true);
    }

    private static void onceMore() {
        CallClub x = withLoss(100);
        x.arrest(2, 0);
        x.letter(0, 100);
        x.estimate(0, 100);
        Check.equal("not by the same estimate", x.isArrested(2), false);
        x.estimate(0, 99);
        Check.equal("not by a lower one", x.isArrested(2), false);
        x.estimate(0, 101);
        Check.equal("by a higher one", x.isArrested(2), true);
        Check.equal("not one that never was", x.isArrested(0), false);
        x.letter(0, 1);
        Check.equal("not with a letter more", x.isArrested(2), false);
        x.estimate(0, 102);
        Check.equal("and once more", x.isArrested(2), true);
        x.estimate(0, 101);
        x.settle(0, false);
        Check.equal("not when it is settled", x.isArrested(2), false);
    }
}
