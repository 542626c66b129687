/** Promises 1 to 10, sentence by sentence: each bound, its neighbour that is allowed, and what is refused. */
final class MembersBounds {
    private MembersBounds() {
    }

    static void all() {
        newObject();
        memberAndShip();
        enterAndLeave();
        passAndDay();
        rate();
        weights();
    }

    private static void newObject() {
        Doc.promise(1);
        Doc.says("The day 0", MembersBounds::theDay0);
        Doc.says("no members", MembersBounds::noMembers);
    }

    private static void memberAndShip() {
        Doc.promise(2);
        Doc.says("its number", MembersBounds::memberNumbers);
        Doc.says("there are 12", MembersBounds::twelveMembers);
        Doc.promise(3);
        Doc.says("its member", MembersBounds::memberOfAShip);
        Doc.says("1 to 999", MembersBounds::tonnages);
        Doc.says("its number", MembersBounds::shipNumbers);
        Doc.says("there is no such member", MembersBounds::shipOfNoMember);
        Doc.says("tonnage is out of its range", MembersBounds::tonnagesOutside);
        Doc.says("there are 24", MembersBounds::twentyFourShips);
    }

    private static void enterAndLeave() {
        Doc.promise(4);
        Doc.says("from today on", MembersBounds::fromTodayOn);
        Doc.says("there is no such ship", MembersBounds::entersNoShip);
        Doc.says("it is entered", MembersBounds::entersTwice);
        Doc.says("its member was released for the year of today", MembersBounds::entersAfterRelease);
        Doc.says("60 entries were told", MembersBounds::sixtyEntries);
        Doc.promise(5);
        Doc.says("today", MembersBounds::leavesToday);
        Doc.says("on how many days it was entered by this entry", MembersBounds::daysOfThisEntry);
        Doc.says("there is no such ship", MembersBounds::leavesNoShip);
        Doc.says("it is not entered", MembersBounds::leavesNotEntered);
    }

    private static void passAndDay() {
        Doc.promise(6);
        Doc.says("1 to 200", MembersBounds::daysToPass);
        Doc.says("the day then", MembersBounds::theDayThen);
        Doc.says("days is out of its range", MembersBounds::daysOutside);
        Doc.says("it would be above 1999", MembersBounds::above1999);
        Doc.promise(7);
        Doc.says("Returns the day", MembersBounds::theDay);
    }

    private static void rate() {
        Doc.promise(8);
        Doc.says("year 0 to 19", MembersBounds::ratedYears);
        Doc.says("10 to 500", MembersBounds::ratings);
        Doc.says("the one before", MembersBounds::ratingBefore);
        Doc.says("there is no such member", MembersBounds::ratesNoMember);
        Doc.says("another argument is out of its range", MembersBounds::ratesOutside);
        Doc.says("the year is closed", MembersBounds::ratesClosed);
        Doc.says("the member was released in it", MembersBounds::ratesReleased);
    }

    private static void weights() {
        Doc.promise(9);
        Doc.says("year 0 to 19", MembersBounds::weighedYears);
        Doc.says("the weight", MembersBounds::theWeight);
        Doc.says("there is no such member", MembersBounds::weighsNoMember);
        Doc.says("year is out of its range", MembersBounds::weighsOutside);
        Doc.promise(10);
        Doc.says("the same, found day by day", MembersBounds::theSame);
        Doc.says("year 0 to 19", MembersBounds::weighedYearsAnew);
        Doc.says("the weight", MembersBounds::theWeightAnew);
        Doc.says("there is no such member", MembersBounds::weighsNoMemberAnew);
        Doc.says("year is out of its range", MembersBounds::weighsOutsideAnew);
    }

    // ---- promises 1 to 3

    private static void theDay0() {
        CallClub x = new CallClub();
        CallClub y = new CallClub();
        Check.equal("at first", x.day(), 0);
        x.pass(1);
        Check.equal("the day of another object", y.day(), 0);
        Check.equal("the day of a third one", new CallClub().day(), 0);
    }

    private static void noMembers() {
        CallClub x = new CallClub();
        Refuses.noSuch(x, "member", 0, (c, v) -> c.owes(v));
        Refuses.noSuch(x, "ship", 0, (c, v) -> c.isArrested(v));
        Refuses.noSuch(x, "claim", 0, (c, v) -> c.ofClaim(v, 0));
        Refuses.noSuch(x, "event", 0, (c, v) -> c.ofEvent(v, 0));
        x.member();
        Check.equal("the first one is there", x.owes(0), 0);
        Refuses.noSuch(x, "member", 1, (c, v) -> c.owes(v));
        Refuses.index(new CallClub(), "of another object", c -> c.owes(0));
    }

    private static void memberNumbers() {
        CallClub x = new CallClub();
        Check.equal("the first", x.member(), 0);
        Check.equal("the second", x.member(), 1);
        x.ship(0, 5);
        Check.equal("ships are not counted", x.member(), 2);
    }

    private static void twelveMembers() {
        CallClub x = new CallClub();
        for (int i = 0; i < 11; i++) {
            x.member();
        }
        Check.equal("the 12th", x.member(), 11);
        Refuses.state(x, "a 13th", CallClub::member);
        Refuses.state(x, "a 13th once more", CallClub::member);
        Check.equal("the 12th is there", x.ship(11, 7), 0);
        Refuses.index(x, "the 13th is not", c -> c.ship(12, 7));
    }

    private static void memberOfAShip() {
        CallClub x = new CallClub();
        x.member();
        x.member();
        x.enter(x.ship(1, 3));
        Check.equal("not of the first one", x.weight(0, 0), 0);
        Check.equal("of the last one", x.weight(1, 0), 300);
        x.enter(x.ship(0, 4));
        Check.equal("of the first one", x.weight(0, 0), 400);
    }

    private static void tonnages() {
        CallClub x = new CallClub();
        x.member();
        x.member();
        x.enter(x.ship(0, 1));
        x.enter(x.ship(1, 999));
        Check.equal("1", x.weight(0, 0), 100);
        Check.equal("999", x.weight(1, 0), 99900);
    }

    private static void shipNumbers() {
        CallClub x = new CallClub();
        x.member();
        x.member();
        Check.equal("the first", x.ship(1, 5), 0);
        Check.equal("of another member", x.ship(0, 5), 1);
        Check.equal("of the same", x.ship(0, 5), 2);
    }

    private static void shipOfNoMember() {
        CallClub x = new CallClub();
        Refuses.noSuch(x, "of none, member", 0, (c, v) -> c.ship(v, 5));
        x.member();
        x.member();
        Refuses.noSuch(x, "of two, member", 2, (c, v) -> c.ship(v, 5));
        Check.equal("the last member", x.ship(1, 5), 0);
        Check.equal("the first member", x.ship(0, 5), 1);
    }

    private static void tonnagesOutside() {
        CallClub x = new CallClub();
        x.member();
        Refuses.outside(x, "tonnage", 1, 999, (c, v) -> c.ship(0, v));
        Check.equal("nothing was told", x.ship(0, 999), 0);
    }

    private static void twentyFourShips() {
        CallClub x = new CallClub();
        x.member();
        x.member();
        for (int i = 0; i < 23; i++) {
            x.ship(0, 5);
        }
        Check.equal("the 24th", x.ship(1, 5), 23);
        Refuses.state(x, "a 25th", c -> c.ship(0, 5));
        Refuses.state(x, "a 25th of another member", c -> c.ship(1, 5));
        x.enter(23);
        Refuses.index(x, "the 25th is not there", c -> c.enter(24));
    }

    // ---- promises 4 and 5

    private static void fromTodayOn() {
        CallClub x = Clubs.ofShips(10, 10, 10);
        x.pass(98);
        x.enter(0);
        x.pass(1);
        x.enter(1);
        x.claim(1, 0, 98, 5, CallClub.NONE);
        x.claim(1, 0, 99, 5, CallClub.NONE);
        Check.equal("two days of the year", x.weight(0, 0), 20);
        Check.equal("the last day of the year", x.weight(1, 0), 10);
        Check.equal("not yesterday", x.ofClaim(0, 2), 0);
        Check.equal("today", x.ofClaim(1, 2), 1);
        x.pass(1);
        x.enter(2);
        Check.equal("not the year ahead", x.weight(2, 0), 0);
        Check.equal("the whole next year", x.weight(2, 1), 1000);
        CallClub y = Clubs.ofShips(10);
        Clubs.passTo(y, 1999);
        y.enter(0);
        Check.equal("the last day of all", y.weight(0, 19), 10);
        Check.equal("not the day ahead", y.weight(0, 18), 0);
    }

    private static void entersNoShip() {
        CallClub x = new CallClub();
        x.member();
        Refuses.noSuch(x, "of none, ship", 0, (c, v) -> c.enter(v));
        x.ship(0, 5);
        x.ship(0, 5);
        Refuses.noSuch(x, "of two, ship", 2, (c, v) -> c.enter(v));
        x.enter(1);
        x.enter(0);
        Check.equal("the last and the first", x.weight(0, 0), 1000);
    }

    private static void entersTwice() {
        CallClub x = Clubs.ofShips(10, 10);
        x.enter(0);
        Refuses.state(x, "on the same day", c -> c.enter(0));
        x.enter(1);
        x.pass(30);
        Refuses.state(x, "later", c -> c.enter(0));
        x.leave(0);
        x.enter(0);
        Check.equal("entered again on the day of leaving", x.weight(0, 0), 1000);
        Refuses.state(x, "entered again", c -> c.enter(0));
    }

    private static void entersAfterRelease() {
        CallClub x = Clubs.ofTonnages(10, 10);
        x.ship(0, 20);
        x.pass(40);
        x.leave(0);
        x.leave(1);
        x.release(0, 0);
        Refuses.state(x, "the ship that left", c -> c.enter(0));
        Refuses.state(x, "another ship of it", c -> c.enter(2));
        x.enter(1);
        Check.equal("who was not released", x.weight(1, 0), 1000);
        Clubs.passTo(x, 99);
        Refuses.state(x, "the last day of the year", c -> c.enter(0));
        x.pass(1);
        x.enter(0);
        Check.equal("the first day of the next year", x.weight(0, 1), 1000);
        Check.equal("nothing more of the year of the release", x.weight(0, 0), 400);
        CallClub y = Clubs.ofTonnages(10);
        y.pass(100);
        y.leave(0);
        Check.equal("released for the year ahead alone", y.release(0, 0), 1);
        y.enter(0);
        Check.equal("entered on the same day", y.weight(0, 1), 1000);
    }

    private static void sixtyEntries() {
        CallClub x = Clubs.ofShips(10, 20);
        for (int i = 0; i < 59; i++) {
            x.enter(0);
            x.leave(0);
        }
        x.enter(0);
        Check.equal("the 60th", x.weight(0, 0), 1000);
        Refuses.state(x, "a 61st", c -> c.enter(1));
        x.leave(0);
        Refuses.state(x, "none becomes free", c -> c.enter(0));
        x.pass(100);
        Refuses.state(x, "in a year behind it", c -> c.enter(1));
    }

    private static void leavesToday() {
        CallClub x = Clubs.ofTonnages(10, 10, 10);
        x.pass(99);
        x.claim(0, 0, 98, 5, CallClub.NONE);
        x.claim(0, 0, 99, 5, CallClub.NONE);
        x.leave(0);
        Check.equal("the day of leaving does not count", x.weight(0, 0), 990);
        Check.equal("nor one behind it", x.weight(0, 1), 0);
        Check.equal("yesterday", x.ofClaim(0, 2), 1);
        Check.equal("not today", x.ofClaim(1, 2), 0);
        x.pass(1);
        x.leave(1);
        Check.equal("the whole year", x.weight(1, 0), 1000);
        Check.equal("no day of the next", x.weight(1, 1), 0);
        x.pass(1);
        x.leave(2);
        Check.equal("a day of the next", x.weight(2, 1), 10);
    }

    private static void daysOfThisEntry() {
        CallClub x = Clubs.ofTonnages(10, 10);
        Check.equal("none", x.leave(0), 0);
        x.enter(0);
        x.pass(1);
        Check.equal("one", x.leave(0), 1);
        x.enter(0);
        Check.equal("none of the entry ahead", x.leave(0), 0);
        Clubs.passTo(x, 1999);
        Check.equal("the longest", x.leave(1), 1999);
        x.enter(1);
        Check.equal("none on the last day", x.leave(1), 0);
    }

    private static void leavesNoShip() {
        CallClub x = new CallClub();
        x.member();
        Refuses.noSuch(x, "of none, ship", 0, (c, v) -> c.leave(v));
        x.enter(x.ship(0, 5));
        x.enter(x.ship(0, 5));
        Refuses.noSuch(x, "of two, ship", 2, (c, v) -> c.leave(v));
        Check.equal("the last one", x.leave(1), 0);
        Check.equal("the first one", x.leave(0), 0);
    }

    private static void leavesNotEntered() {
        CallClub x = Clubs.ofShips(10, 10);
        Refuses.state(x, "never entered", c -> c.leave(0));
        x.enter(1);
        Refuses.state(x, "another one is", c -> c.leave(0));
        x.pass(20);
        x.leave(1);
        Refuses.state(x, "left today", c -> c.leave(1));
        x.pass(20);
        Refuses.state(x, "left long ago", c -> c.leave(1));
        Check.equal("the days stay", x.weight(1, 0), 200);
    }

    // ---- promises 6 and 7

    private static void daysToPass() {
        CallClub x = new CallClub();
        Check.equal("1", x.pass(1), 1);
        Check.equal("200", x.pass(200), 201);
    }

    private static void theDayThen() {
        CallClub x = new CallClub();
        Check.equal("the first", x.pass(99), 99);
        Check.equal("both", x.pass(2), 101);
        Check.equal("the same as day tells", x.day(), 101);
    }

    private static void daysOutside() {
        CallClub x = new CallClub();
        Refuses.outside(x, "days", 1, 200, (c, v) -> c.pass(v));
        Clubs.passTo(x, 1999);
        Refuses.outside(x, "on the last day, days", 1, 200, (c, v) -> c.pass(v));
    }

    private static void above1999() {
        CallClub x = new CallClub();
        Clubs.passTo(x, 1799);
        Check.equal("200 to the last day", x.pass(200), 1999);
        Refuses.state(x, "1 from the last day", c -> c.pass(1));
        Refuses.state(x, "200 from the last day", c -> c.pass(200));
        CallClub y = new CallClub();
        Clubs.passTo(y, 1800);
        Refuses.state(y, "2000", c -> c.pass(200));
        Check.equal("199 to the last day", y.pass(199), 1999);
        CallClub z = new CallClub();
        Clubs.passTo(z, 1998);
        Refuses.state(z, "2 from the last but one", c -> c.pass(2));
        Check.equal("1 from the last but one", z.pass(1), 1999);
    }

    private static void theDay() {
        CallClub x = new CallClub();
        Check.equal("the first", x.day(), 0);
        Refuses.argument(x, "no day", c -> c.pass(0));
        Check.equal("not passed", x.day(), 0);
        Clubs.passTo(x, 1999);
        Check.equal("the last", x.day(), 1999);
    }

    // ---- promise 8

    private static void ratedYears() {
        CallClub x = Clubs.ofTonnages(10);
        x.rate(0, 0, 200);
        x.rate(0, 19, 300);
        Check.equal("the first", x.weight(0, 0), 2000);
        Check.equal("not the one behind it", x.weight(0, 1), 1000);
        Check.equal("the last", x.weight(0, 19), 3000);
        Check.equal("not the one ahead of it", x.weight(0, 18), 1000);
    }

    private static void ratings() {
        CallClub x = Clubs.ofTonnages(10);
        x.rate(0, 0, 10);
        Check.equal("10", x.weight(0, 0), 100);
        x.rate(0, 0, 500);
        Check.equal("500", x.weight(0, 0), 5000);
    }

    private static void ratingBefore() {
        CallClub x = Clubs.ofTonnages(10, 10);
        Check.equal("100 at first", x.rate(0, 0, 10), 100);
        Check.equal("told", x.rate(0, 0, 500), 10);
        Refuses.argument(x, "refused", c -> c.rate(0, 0, 501));
        Check.equal("not the refused one", x.rate(0, 0, 100), 500);
        Check.equal("of another member", x.rate(1, 0, 100), 100);
        Check.equal("of the last year", x.rate(0, 19, 100), 100);
    }

    private static void ratesNoMember() {
        CallClub x = new CallClub();
        Refuses.noSuch(x, "of none, member", 0, (c, v) -> c.rate(v, 0, 100));
        x.member();
        x.member();
        Refuses.noSuch(x, "of two, member", 2, (c, v) -> c.rate(v, 0, 100));
        Check.equal("the last one", x.rate(1, 0, 100), 100);
    }

    private static void ratesOutside() {
        CallClub x = Clubs.ofTonnages(10);
        Refuses.outsideYears(x, (c, v) -> c.rate(0, v, 100));
        Refuses.outside(x, "hundredths", 10, 500, (c, v) -> c.rate(0, 0, v));
    }

    private static void ratesClosed() {
        CallClub x = Clubs.ofTonnages(10);
        x.pass(99);
        x.rate(0, 0, 200);
        x.pass(1);
        Check.equal("over, but open", x.rate(0, 0, 300), 200);
        x.close(0);
        Refuses.state(x, "closed", c -> c.rate(0, 0, 200));
        Refuses.state(x, "closed, the same rating", c -> c.rate(0, 0, 300));
        Check.equal("the next year", x.rate(0, 1, 200), 100);
        Check.equal("the weight stays", x.weight(0, 0), 3000);
    }

    private static void ratesReleased() {
        CallClub x = Clubs.ofTonnages(10, 10);
        x.pass(150);
        x.leave(0);
        x.rate(0, 0, 150);
        x.release(0, 0);
        Refuses.state(x, "the first year", c -> c.rate(0, 0, 200));
        Refuses.state(x, "the last year with a weight", c -> c.rate(0, 1, 200));
        Check.equal("the next year, without a weight", x.rate(0, 2, 200), 100);
        Check.equal("another member", x.rate(1, 0, 200), 100);
    }

    // ---- promises 9 and 10

    private static void weighedYears() {
        CallClub x = Clubs.ofTonnages(10);
        Check.equal("the first", x.weight(0, 0), 1000);
        Check.equal("the last", x.weight(0, 19), 1000);
        x.leave(0);
        Check.equal("the first without", x.weight(0, 0), 0);
        Check.equal("the last without", x.weight(0, 19), 0);
    }

    private static void theWeight() {
        CallClub x = new CallClub();
        x.member();
        Check.equal("no ship", x.weight(0, 0), 0);
        x.ship(0, 10);
        Check.equal("no ship entered", x.weight(0, 0), 0);
        for (int i = 1; i < 24; i++) {
            x.ship(0, 999);
        }
        for (int i = 1; i < 24; i++) {
            x.enter(i);
        }
        x.rate(0, 0, 500);
        Check.equal("23 of the largest, rated highest", x.weight(0, 0), 11488500);
        x.enter(0);
        Check.equal("and a small one", x.weight(0, 0), 11493500);
    }

    private static void weighsNoMember() {
        CallClub x = new CallClub();
        Refuses.noSuch(x, "of none, member", 0, (c, v) -> c.weight(v, 0));
        x.member();
        Refuses.noSuch(x, "of one, member", 1, (c, v) -> c.weight(v, 0));
    }

    private static void weighsOutside() {
        CallClub x = Clubs.ofTonnages(10);
        Refuses.outsideYears(x, (c, v) -> c.weight(0, v));
    }

    private static void theSame() {
        CallClub x = Clubs.ofTonnages(7, 13);
        x.enter(x.ship(0, 11));
        x.rate(0, 1, 133);
        x.rate(1, 2, 10);
        x.pass(99);
        x.leave(0);
        x.pass(1);
        x.enter(0);
        x.leave(1);
        x.enter(1);
        x.pass(101);
        x.leave(0);
        x.leave(1);
        for (int member = 0; member < 2; member++) {
            for (int year = 0; year < 20; year++) {
                Check.equal("of " + member + " in " + year, x.weightAnew(member, year), x.weight(member, year));
            }
        }
        Check.equal("without the last day", x.weightAnew(0, 0), 7 * 99 + 11 * 100);
        Check.equal("rounded down", x.weightAnew(0, 1), 2394);
        Check.equal("one day", x.weightAnew(1, 2), 1);
    }

    private static void weighedYearsAnew() {
        CallClub x = Clubs.ofTonnages(10);
        Check.equal("the first", x.weightAnew(0, 0), 1000);
        Check.equal("the last", x.weightAnew(0, 19), 1000);
        x.leave(0);
        Check.equal("the first without", x.weightAnew(0, 0), 0);
        Check.equal("the last without", x.weightAnew(0, 19), 0);
    }

    private static void theWeightAnew() {
        CallClub x = new CallClub();
        x.member();
        Check.equal("no ship", x.weightAnew(0, 0), 0);
        for (int i = 0; i < 24; i++) {
            x.enter(x.ship(0, 999));
        }
        x.rate(0, 19, 500);
        Check.equal("the largest", x.weightAnew(0, 19), 11988000);
        x.rate(0, 19, 10);
        Check.equal("rated lowest", x.weightAnew(0, 19), 239760);
    }

    private static void weighsNoMemberAnew() {
        CallClub x = new CallClub();
        Refuses.noSuch(x, "of none, member", 0, (c, v) -> c.weightAnew(v, 0));
        x.member();
        Refuses.noSuch(x, "of one, member", 1, (c, v) -> c.weightAnew(v, 0));
    }

    private static void weighsOutsideAnew() {
        CallClub x = Clubs.ofTonnages(10);
        Refuses.outsideYears(x, (c, v) -> c.weightAnew(0, v));
    }
}
