import java.util.TreeSet;

/** Promises 21 to 31, sentence by sentence: each bound, its neighbour that is allowed, and what is refused. */
final class ClosingBounds {
    private static final int NONE = CallClub.NONE;
    private static final int CREW = CallClub.CREW;

    private ClosingBounds() {
    }

    static void all() {
        advanceAndFurther();
        releaseAndPay();
        stop();
        close();
        dueAndOwes();
        results();
    }

    private static void advanceAndFurther() {
        Doc.promise(21);
        Doc.says("year 0 to 19", ClosingBounds::advancedYears);
        Doc.says("0 to 1000000", ClosingBounds::advances);
        Doc.says("the one before", ClosingBounds::advanceBefore);
        Doc.says("an argument is out of its range", ClosingBounds::advancesOutside);
        Doc.says("the year is closed", ClosingBounds::advancesClosed);
        Doc.says("someone was released in it", ClosingBounds::advancesReleased);
        Doc.promise(22);
        Doc.says("year 0 to 19", ClosingBounds::furtherYears);
        Doc.says("1 to 200", ClosingBounds::furtherHundredths);
        Doc.says("all further hundredths of the year then", ClosingBounds::allFurther);
        Doc.says("an argument is out of its range", ClosingBounds::furtherOutside);
        Doc.says("the year is closed", ClosingBounds::furtherClosed);
        Doc.says("they would be above 1000", ClosingBounds::furtherAbove1000);
    }

    private static void releaseAndPay() {
        Doc.promise(23);
        Doc.says("0 to 200", ClosingBounds::releaseHundredths);
        Doc.says("of how many years", ClosingBounds::releasedYears);
        Doc.says("there is no such member", ClosingBounds::releasesNoMember);
        Doc.says("hundredths is out of its range", ClosingBounds::releasesOutside);
        Doc.says("it has a ship entered", ClosingBounds::releasesEntered);
        Doc.says("no weight in an open year of which it was not released", ClosingBounds::releasesNoWeight);
        Doc.promise(24);
        Doc.says("1 to 1000000000", ClosingBounds::payments);
        Doc.says("what it owes then", ClosingBounds::owesThen);
        Doc.says("there is no such member", ClosingBounds::noMemberPays);
        Doc.says("cents is out of its range", ClosingBounds::paysOutside);
    }

    private static void stop() {
        Doc.promise(25);
        Doc.says("in place of a stop before", ClosingBounds::stopsInPlace);
        Doc.says("0 to today", ClosingBounds::stopDays);
        Doc.says("the day of the stop before; NONE without", ClosingBounds::stopBefore);
        Doc.says("there is no such member", ClosingBounds::stopsNoMember);
        Doc.says("day is out of its range", ClosingBounds::stopsOutside);
        Doc.says("it owes nothing", ClosingBounds::stopsWhoOwesNothing);
    }

    private static void close() {
        Doc.promise(26);
        Doc.says("year 0 to 19", ClosingBounds::closedYears);
        Doc.says("its cost", ClosingBounds::closeTellsTheCost);
        Doc.says("year is out of its range", ClosingBounds::closesOutside);
        Doc.says("it cannot be closed", ClosingBounds::cannotBeClosed);
        Doc.says("or is", ClosingBounds::closesClosed);
        Doc.says("its cause tells why, as an own exception", ClosingBounds::closeTellsWhy);
    }

    private static void dueAndOwes() {
        Doc.promise(27);
        Doc.says("what is due of a member for a year", ClosingBounds::dueOfAMember);
        Doc.says("year 0 to 19", ClosingBounds::dueYears);
        Doc.says("there is no such member", ClosingBounds::dueOfNoMember);
        Doc.says("year is out of its range", ClosingBounds::dueOutside);
        Doc.promise(28);
        Doc.says("perhaps below 0", ClosingBounds::owesBelowZero);
        Doc.says("there is no such member", ClosingBounds::noMemberOwes);
    }

    private static void results() {
        Doc.promise(29);
        Doc.says("below 0, if it is not enough", ClosingBounds::resultBelowZero);
        Doc.says("year 0 to 19", ClosingBounds::resultYears);
        Doc.says("@return the result", ClosingBounds::resultOfAClosedYear);
        Doc.says("year is out of its range", ClosingBounds::resultOutside);
        Doc.promise(30);
        Doc.says("year 0 to 19", ClosingBounds::isClosedYears);
        Doc.says("@return whether it is", ClosingBounds::isClosedOrNot);
        Doc.says("year is out of its range", ClosingBounds::isClosedOutside);
        Doc.promise(31);
        Doc.says("perhaps below 0", ClosingBounds::reserveBelowZero);
    }

    // ---- promises 21 and 22

    private static void advancedYears() {
        CallClub x = Clubs.ofTonnages(10);
        x.advance(0, 5);
        x.advance(19, 70);
        Check.equal("the first", x.due(0, 0), 5);
        Check.equal("not the one behind it", x.due(0, 1), 0);
        Check.equal("not the one ahead of the last", x.due(0, 18), 0);
        Check.equal("the last", x.due(0, 19), 70);
    }

    private static void advances() {
        CallClub x = Clubs.ofTonnages(10);
        int[] cents = {0, 1, 999999, 1000000};
        for (int advance : cents) {
            x.advance(0, advance);
            Check.equal("" + advance, x.due(0, 0), advance);
        }
    }

    private static void advanceBefore() {
        CallClub x = Clubs.ofTonnages(10);
        Check.equal("0 at first", x.advance(0, 1000000), 0);
        Refuses.argument(x, "refused", c -> c.advance(0, 1000001));
        Check.equal("not the refused one", x.advance(0, 0), 1000000);
        Check.equal("0", x.advance(0, 0), 0);
        Check.equal("of another year", x.advance(1, 7), 0);
    }

    private static void advancesOutside() {
        CallClub x = Clubs.ofTonnages(10);
        Refuses.outsideYears(x, (c, v) -> c.advance(v, 5));
        Refuses.outside(x, "cents", 0, 1000000, (c, v) -> c.advance(0, v));
    }

    private static void advancesClosed() {
        CallClub x = Clubs.ofTonnages(10);
        x.pass(100);
        Check.equal("over, but open", x.advance(0, 5), 0);
        x.close(0);
        Refuses.state(x, "closed", c -> c.advance(0, 6));
        Refuses.state(x, "closed, the same advance", c -> c.advance(0, 5));
        Check.equal("the next year", x.advance(1, 5), 0);
        Check.equal("the closed year is shared", x.due(0, 0), 0);
    }

    private static void advancesReleased() {
        CallClub x = Clubs.ofTonnages(10, 10, 10);
        x.pass(150);
        x.leave(2);
        x.advance(1, 5);
        x.release(2, 0);
        Refuses.state(x, "the first year", c -> c.advance(0, 6));
        Refuses.state(x, "the last year with a weight", c -> c.advance(1, 6));
        Check.equal("the next year", x.advance(2, 6), 0);
        Check.equal("as it was for the others", x.due(0, 1), 5);
        Clubs.passTo(x, 300);
        x.close(0);
        Refuses.state(x, "the closing of a year ahead frees none", c -> c.advance(1, 6));
        CallClub y = withOneGone();
        y.release(0, 0);
        Refuses.state(y, "the first member", c -> c.advance(0, 6));
        CallClub z = withOneGone();
        Check.equal("left, but not released", z.advance(0, 6), 1000);
    }

    private static void furtherYears() {
        CallClub x = Clubs.ofTonnages(10);
        for (int year = 0; year < 20; year++) {
            x.advance(year, 100);
        }
        x.further(0, 5);
        x.further(19, 70);
        Check.equal("the first", x.due(0, 0), 105);
        Check.equal("not the one behind it", x.due(0, 1), 100);
        Check.equal("not the one ahead of the last", x.due(0, 18), 100);
        Check.equal("the last", x.due(0, 19), 170);
    }

    private static void furtherHundredths() {
        CallClub x = Clubs.ofTonnages(10);
        x.advance(0, 100);
        x.further(0, 1);
        Check.equal("1", x.due(0, 0), 101);
        x.further(0, 200);
        Check.equal("and 200", x.due(0, 0), 301);
    }

    private static void allFurther() {
        CallClub x = Clubs.ofTonnages(10);
        Check.equal("the first", x.further(0, 7), 7);
        Check.equal("both", x.further(0, 200), 207);
        Refuses.argument(x, "refused", c -> c.further(0, 201));
        Check.equal("without the refused one", x.further(0, 1), 208);
        Check.equal("of another year", x.further(1, 7), 7);
    }

    private static void furtherOutside() {
        CallClub x = Clubs.ofTonnages(10);
        Refuses.outsideYears(x, (c, v) -> c.further(v, 5));
        Refuses.outside(x, "hundredths", 1, 200, (c, v) -> c.further(0, v));
    }

    private static void furtherClosed() {
        CallClub x = Clubs.ofTonnages(10);
        x.advance(0, 1000);
        x.pass(100);
        Check.equal("over, but open", x.further(0, 5), 5);
        x.close(0);
        Refuses.state(x, "closed", c -> c.further(0, 5));
        Check.equal("the next year", x.further(1, 5), 5);
        Check.equal("the closed year is shared", x.due(0, 0), 0);
    }

    private static CallClub withFurther(int hundredths) {
        CallClub x = Clubs.ofTonnages(10);
        x.advance(0, 100);
        for (int left = hundredths; left > 0; left -= 200) {
            x.further(0, Math.min(left, 200));
        }
        return x;
    }

    private static void furtherAbove1000() {
        CallClub x = withFurther(999);
        Refuses.state(x, "999 and 2", c -> c.further(0, 2));
        Check.equal("999 and 1", x.further(0, 1), 1000);
        Refuses.state(x, "1000 and 1", c -> c.further(0, 1));
        Refuses.state(x, "1000 and 200", c -> c.further(0, 200));
        Check.equal("eleven times", x.due(0, 0), 1100);
        Check.equal("of another year", x.further(1, 200), 200);
        CallClub y = withFurther(800);
        Check.equal("800 and 200", y.further(0, 200), 1000);
        CallClub z = withFurther(801);
        Refuses.state(z, "801 and 200", c -> c.further(0, 200));
        Check.equal("801 and 199", z.further(0, 199), 1000);
    }

    // ---- promises 23 and 24

    /** Two members, the first with the weight 500 of the year 0 and no ship entered. */
    private static CallClub withOneGone() {
        CallClub x = Clubs.ofTonnages(10, 10);
        x.advance(0, 1000);
        x.pass(50);
        x.leave(0);
        return x;
    }

    private static void releaseHundredths() {
        int[] hundredths = {0, 1, 199, 200};
        int[] dues = {500, 505, 1495, 1500};
        for (int i = 0; i < 4; i++) {
            CallClub x = withOneGone();
            x.release(0, hundredths[i]);
            Check.equal("" + hundredths[i], x.due(0, 0), dues[i]);
            Check.equal("not of the other", x.due(1, 0), 1000);
        }
    }

    private static void releasedYears() {
        CallClub x = withOneGone();
        Check.equal("one", x.release(0, 0), 1);
        CallClub y = Clubs.ofTonnages(10, 10);
        Clubs.passTo(y, 1999);
        y.leave(0);
        Check.equal("all", y.release(0, 0), 20);
        for (int year = 0; year < 19; year++) {
            y.close(year);
        }
        y.leave(1);
        Check.equal("the last alone, the others being closed", y.release(1, 0), 1);
        CallClub z = Clubs.ofTonnages(10);
        z.pass(100);
        z.leave(0);
        z.pass(100);
        z.enter(0);
        z.pass(1);
        z.leave(0);
        Check.equal("two with one between them", z.release(0, 0), 2);
    }

    private static void releasesNoMember() {
        CallClub x = withOneGone();
        Refuses.noSuch(x, "member", 2, (c, v) -> c.release(v, 0));
        x.leave(1);
        Check.equal("the last one", x.release(1, 0), 1);
        Check.equal("the first one", x.release(0, 0), 1);
    }

    private static void releasesOutside() {
        CallClub x = withOneGone();
        Refuses.outside(x, "hundredths", 0, 200, (c, v) -> c.release(0, v));
        Check.equal("was not released", x.release(0, 0), 1);
    }

    private static void releasesEntered() {
        CallClub x = Clubs.ofTonnages(10, 10);
        x.ship(0, 5);
        x.enter(2);
        x.pass(50);
        Refuses.state(x, "two ships", c -> c.release(0, 0));
        x.leave(0);
        Refuses.state(x, "its last ship", c -> c.release(0, 0));
        x.enter(0);
        x.leave(2);
        Refuses.state(x, "its first ship, entered again today", c -> c.release(0, 0));
        x.leave(0);
        Check.equal("none, though another's is", x.release(0, 0), 1);
        Refuses.state(x, "the other one", c -> c.release(1, 0));
    }

    private static void releasesNoWeight() {
        CallClub x = Clubs.ofShips(1);
        Refuses.state(x, "never entered", c -> c.release(0, 0));
        x.enter(0);
        x.leave(0);
        Refuses.state(x, "for no day", c -> c.release(0, 0));
        x.enter(0);
        x.pass(1);
        x.leave(0);
        x.rate(0, 0, 99);
        Refuses.state(x, "99 hundredths of 1", c -> c.release(0, 0));
        x.rate(0, 0, 100);
        Check.equal("a weight of 1", x.release(0, 0), 1);
        Refuses.state(x, "was released of it", c -> c.release(0, 0));
        x.pass(99);
        x.enter(0);
        x.pass(1);
        x.leave(0);
        Check.equal("the next year, of which it was not", x.release(0, 0), 1);
        CallClub y = Clubs.ofTonnages(10);
        y.pass(100);
        y.leave(0);
        y.close(0);
        Refuses.state(y, "of a closed year alone", c -> c.release(0, 0));
    }

    private static void payments() {
        CallClub x = Clubs.ofTonnages(10);
        Check.equal("1", x.pay(0, 1), -1);
        Check.equal("1000000000", x.pay(0, 1000000000), -1000000001);
        // Member, ship, entry, the two payments above and owes are calls, too: 512 in all.
        for (int i = 0; i < 506; i++) {
            x.pay(0, 1000000000);
        }
        Check.equal("as many as there can be", x.owes(0), -507000000001L);
    }

    private static void owesThen() {
        CallClub x = Clubs.ofTonnages(10, 10);
        x.advance(0, 1000);
        Check.equal("still something", x.pay(0, 999), 1);
        Check.equal("nothing", x.pay(0, 1), 0);
        Check.equal("below 0", x.pay(0, 1), -1);
        Check.equal("not of the other", x.owes(1), 1000);
        x.advance(19, 50);
        Check.equal("with what is due of the last year", x.pay(0, 1), 48);
    }

    private static void noMemberPays() {
        CallClub x = new CallClub();
        Refuses.noSuch(x, "of none, member", 0, (c, v) -> c.pay(v, 5));
        x.member();
        x.member();
        Refuses.noSuch(x, "of two, member", 2, (c, v) -> c.pay(v, 5));
        Check.equal("the last one", x.pay(1, 5), -5);
        Check.equal("not the first one", x.owes(0), 0);
    }

    private static void paysOutside() {
        CallClub x = stoppedClub();
        Refuses.outside(x, "cents", 1, 1000000000, (c, v) -> c.pay(0, v));
        Check.equal("nothing was paid", x.owes(0), 1000);
        Check.equal("the stop stands", x.stop(0, 20), 20);
    }

    // ---- promise 25

    /** Two members who owe 1000, on the day 50; the cover of the first one is stopped back to the day 20. */
    private static CallClub stoppedClub() {
        CallClub x = Clubs.ofTonnages(10, 10);
        x.advance(0, 1000);
        x.pass(50);
        x.stop(0, 20);
        return x;
    }

    private static void stopsInPlace() {
        CallClub x = stoppedClub();
        x.claim(0, CREW, 19, 5, NONE);
        x.claim(0, CREW, 20, 5, NONE);
        x.claim(0, CREW, 21, 5, NONE);
        Check.equal("from the day on", x.cost(0), 5);
        x.stop(0, 21);
        Check.equal("a later day", x.cost(0), 10);
        x.stop(0, 19);
        Check.equal("an earlier day", x.cost(0), 0);
        x.stop(0, 50);
        Check.equal("today", x.cost(0), 15);
    }

    private static void stopDays() {
        CallClub x = Clubs.ofTonnages(10);
        x.advance(0, 1000);
        Check.equal("today, the first day", x.stop(0, 0), NONE);
        Refuses.argument(x, "tomorrow of the first day", c -> c.stop(0, 1));
        Clubs.passTo(x, 1999);
        Check.equal("today, the last day", x.stop(0, 1999), 0);
        Check.equal("the first day", x.stop(0, 0), 1999);
        Refuses.argument(x, "behind the last day", c -> c.stop(0, 2000));
        Refuses.argument(x, "ahead of the first day", c -> c.stop(0, -1));
    }

    private static void stopBefore() {
        CallClub x = stoppedClub();
        Check.equal("of the other one", x.stop(1, 0), NONE);
        Check.equal("the day", x.stop(0, 0), 20);
        Check.equal("the day 0 is no NONE", x.stop(0, 50), 0);
        Check.equal("the same as that", x.stop(0, 50), 50);
        x.pay(0, 1000);
        x.advance(1, 1000);
        Check.equal("gone by paying", x.stop(0, 30), NONE);
    }

    private static void stopsNoMember() {
        CallClub x = stoppedClub();
        Refuses.noSuch(x, "member", 2, (c, v) -> c.stop(v, 0));
        Check.equal("the last one", x.stop(1, 0), NONE);
    }

    private static void stopsOutside() {
        CallClub x = stoppedClub();
        Refuses.outside(x, "day", 0, 50, (c, v) -> c.stop(0, v));
        Check.equal("the stop stands", x.stop(0, 50), 20);
    }

    private static void stopsWhoOwesNothing() {
        CallClub x = Clubs.ofTonnages(10);
        Refuses.state(x, "never anything", c -> c.stop(0, 0));
        x.advance(0, 1000);
        x.pay(0, 999);
        Check.equal("owes 1", x.stop(0, 0), NONE);
        x.pay(0, 1);
        Refuses.state(x, "owes 0", c -> c.stop(0, 0));
        x.pay(0, 1);
        Refuses.state(x, "owes less than 0", c -> c.stop(0, 0));
        x.advance(0, 1002);
        Check.equal("owes 1 again", x.stop(0, 0), NONE);
    }

    // ---- promise 26

    private static void closedYears() {
        CallClub x = Clubs.ofTonnages(10);
        Clubs.passTo(x, 1999);
        Check.equal("the first", x.close(0), 0);
        for (int year = 1; year < 18; year++) {
            x.close(year);
        }
        Check.equal("the last that is ever over", x.close(18), 0);
        Check.equal("is closed", x.isClosed(18), true);
        Refuses.state(x, "the last of all, on its last day", c -> c.close(19));
    }

    private static void closeTellsTheCost() {
        CallClub x = withOneGone();
        x.pool(0, 100, 1000, 50);
        x.claim(1, CREW, 50, 200, NONE);
        x.release(0, 0);
        x.settle(0, false);
        x.pass(50);
        Check.equal("what the club bears, not the rest", x.close(0), 150);
        x.pass(100);
        Check.equal("nothing", x.close(1), 0);
    }

    private static void closesOutside() {
        CallClub x = Clubs.ofTonnages(10);
        Refuses.outsideYears(x, (c, v) -> c.close(v));
        Clubs.passTo(x, 1999);
        Refuses.outsideYears(x, (c, v) -> c.close(v));
    }

    private static void cannotBeClosed() {
        CallClub x = Clubs.ofTonnages(10, 10);
        x.ship(0, 5);
        x.advance(0, 1000);
        x.claim(0, CREW, 0, 7, NONE);
        x.claim(2, CREW, 0, 0, NONE);
        Clubs.passTo(x, 99);
        x.claim(0, CREW, 99, 7, NONE);
        Clubs.settle(x, 0, 3);
        Refuses.state(x, "its last day", c -> c.close(0));
        x.pass(1);
        Refuses.state(x, "today's year, the one ahead open", c -> c.close(1));
        x.pass(100);
        Refuses.state(x, "over, the one ahead open", c -> c.close(1));
        x.claim(1, CREW, 99, 7, NONE);
        Refuses.state(x, "the claim of the last day is not settled", c -> c.close(0));
        x.settle(3, true);
        x.claim(2, CREW, 0, 0, NONE);
        Refuses.state(x, "a claim without loss and cover is not settled", c -> c.close(0));
        x.settle(4, false);
        x.claim(1, CREW, 100, 7, NONE);
        Check.equal("one of the next year does not matter", x.close(0), 14);
        Refuses.state(x, "it does for the next year", c -> c.close(1));
        x.settle(5, false);
        Check.equal("the next year", x.close(1), 7);
    }

    private static void closesClosed() {
        CallClub x = Clubs.ofTonnages(10);
        x.pass(100);
        x.close(0);
        Refuses.state(x, "at once", c -> c.close(0));
        x.pass(100);
        x.close(1);
        Refuses.state(x, "the first, behind the second", c -> c.close(0));
        Refuses.state(x, "the second", c -> c.close(1));
        Check.equal("closed it is", x.isClosed(0), true);
    }

    /** An own exception, as a cause, LANGUAGE.md does not allow; the text of the exception tells why. */
    private static void closeTellsWhy() {
        CallClub x = Clubs.ofTonnages(10);
        TreeSet<String> reasons = new TreeSet<>();
        reasons.add(reason(x, 0));
        x.claim(0, CREW, 0, 7, NONE);
        Clubs.passTo(x, 200);
        reasons.add(reason(x, 0));
        reasons.add(reason(x, 1));
        x.settle(0, false);
        x.close(0);
        reasons.add(reason(x, 0));
        Check.equal("four reasons", reasons.size(), 4);
    }

    private static String reason(CallClub x, int year) {
        try {
            x.close(year);
            return "";
        } catch (IllegalStateException e) {
            Check.equal("a text", e.getMessage() != null && !e.getMessage().isEmpty(), true);
            return "" + e.getMessage();
        }
    }

    // ---- promises 27 and 28

    private static void dueOfAMember() {
        CallClub x = withOneGone();
        Check.equal("of an open year", x.due(0, 0), 500);
        x.member();
        Check.equal("of one without ships", x.due(2, 0), 0);
        x.claim(1, CREW, 50, 70, NONE);
        x.settle(0, false);
        x.release(0, 0);
        x.pass(50);
        x.close(0);
        Check.equal("of the released", x.due(0, 0), 500);
        Check.equal("of a closed year, below 0", x.due(1, 0), -430);
        Check.equal("of a closed year without a weight", x.due(2, 0), 0);
    }

    private static void dueYears() {
        CallClub x = Clubs.ofTonnages(10);
        x.advance(0, 1);
        x.advance(19, 2);
        Check.equal("the first", x.due(0, 0), 1);
        Check.equal("the last", x.due(0, 19), 2);
    }

    private static void dueOfNoMember() {
        CallClub x = new CallClub();
        Refuses.noSuch(x, "of none, member", 0, (c, v) -> c.due(v, 0));
        x.member();
        x.member();
        Refuses.noSuch(x, "of two, member", 2, (c, v) -> c.due(v, 0));
        Check.equal("the last one", x.due(1, 0), 0);
    }

    private static void dueOutside() {
        CallClub x = Clubs.ofTonnages(10);
        Refuses.outsideYears(x, (c, v) -> c.due(0, v));
    }

    private static void owesBelowZero() {
        CallClub x = Clubs.ofTonnages(10, 10);
        Check.equal("nothing", x.owes(0), 0);
        x.advance(0, 2);
        x.pay(0, 1);
        Check.equal("something", x.owes(0), 1);
        x.pay(0, 1);
        Check.equal("nothing any more", x.owes(0), 0);
        x.pay(0, 1);
        Check.equal("below 0 by paying", x.owes(0), -1);
        x.pass(50);
        x.leave(0);
        x.release(0, 200);
        x.pass(50);
        x.close(0);
        Check.equal("of the released", x.owes(0), 0);
        Check.equal("below 0 by the closing", x.owes(1), -3);
    }

    private static void noMemberOwes() {
        CallClub x = new CallClub();
        Refuses.noSuch(x, "of none, member", 0, (c, v) -> c.owes(v));
        x.member();
        x.member();
        Refuses.noSuch(x, "of two, member", 2, (c, v) -> c.owes(v));
        Check.equal("the last one", x.owes(1), 0);
    }

    // ---- promises 29 to 31

    private static void resultBelowZero() {
        CallClub x = Clubs.ofTonnages(10);
        Check.equal("nothing", x.result(0), 0);
        x.claim(0, CREW, 0, 7, NONE);
        Check.equal("not enough", x.result(0), -7);
        x.advance(0, 6);
        Check.equal("not enough by 1", x.result(0), -1);
        x.advance(0, 7);
        Check.equal("enough", x.result(0), 0);
        x.advance(0, 8);
        Check.equal("more than enough", x.result(0), 1);
        x.pay(0, 100);
        Check.equal("not by paying", x.result(0), 1);
    }

    private static void resultYears() {
        CallClub x = Clubs.ofTonnages(10);
        x.advance(0, 1);
        x.advance(19, 2);
        Check.equal("the first", x.result(0), 1);
        Check.equal("the one behind it", x.result(1), 0);
        Check.equal("the last", x.result(19), 2);
    }

    private static void resultOfAClosedYear() {
        CallClub x = withOneGone();
        x.claim(1, CREW, 50, 7, NONE);
        x.settle(0, false);
        x.release(0, 0);
        x.pass(50);
        x.close(0);
        Check.equal("sums to nothing among those who were in it", x.result(0), 0);
        CallClub y = Clubs.ofShips(10);
        y.pass(100);
        y.close(0);
        Check.equal("of a year without anyone", y.result(0), 0);
    }

    private static void resultOutside() {
        CallClub x = Clubs.ofTonnages(10);
        Refuses.outsideYears(x, (c, v) -> c.result(v));
    }

    private static void isClosedYears() {
        CallClub x = Clubs.ofTonnages(10);
        Clubs.passTo(x, 1999);
        Check.equal("the first", x.isClosed(0), false);
        x.close(0);
        Check.equal("the first, closed", x.isClosed(0), true);
        Check.equal("the one behind it", x.isClosed(1), false);
        Check.equal("the last", x.isClosed(19), false);
    }

    private static void isClosedOrNot() {
        CallClub x = Clubs.ofTonnages(10);
        x.pass(99);
        Refuses.state(x, "its last day", c -> c.close(0));
        Check.equal("not by a refused closing", x.isClosed(0), false);
        x.pass(1);
        Check.equal("not by being over", x.isClosed(0), false);
        x.close(0);
        Check.equal("closed", x.isClosed(0), true);
        Check.equal("not of another object", new CallClub().isClosed(0), false);
    }

    private static void isClosedOutside() {
        CallClub x = Clubs.ofTonnages(10);
        Refuses.outsideYears(x, (c, v) -> c.isClosed(v));
    }

    private static void reserveBelowZero() {
        CallClub x = Clubs.ofTonnages(10);
        x.advance(0, 100);
        x.advance(1, 1000);
        x.claim(0, CREW, 0, 51, NONE);
        x.settle(0, false);
        x.pass(50);
        x.leave(0);
        x.release(0, 0);
        Clubs.passTo(x, 150);
        Check.equal("nothing at first", x.reserve(), 0);
        x.close(0);
        Check.equal("below 0", x.reserve(), -1);
        x.enter(0);
        x.pass(1);
        x.leave(0);
        x.release(0, 0);
        Clubs.passTo(x, 200);
        x.close(1);
        Check.equal("above 0", x.reserve(), 9);
    }
}
