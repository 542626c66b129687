/** Promises 1 to 10: members, ships, days, ratings and weights. */
public final class MembersShipsDaysTest {
    private MembersShipsDaysTest() {
    }

    public static void main(String[] args) {
        promise1NewObject();
        promise2Member();
        promise3Ship();
        promise4Enter();
        promise4EnterAfterRelease();
        promise4EntryLimit();
        promise5Leave();
        promise6Pass();
        promise7Day();
        promise8Rate();
        promise8RateClosedOrReleased();
        promise9Weight();
        promise9WeightReentered();
        promise9WeightRoundedOnce();
        promise10WeightAnew();
        Check.end();
    }

    private static void pass(CallClub x, int days) {
        int left = days;
        while (left > 0) {
            int step = Math.min(left, 200);
            x.pass(step);
            left -= step;
        }
    }

    private static void promise1NewObject() {
        CallClub x = new CallClub();
        Check.equal("1 day", x.day(), 0);
        Check.equal("1 reserve", x.reserve(), 0);
        Check.index("1 no member", () -> x.owes(0));
        Check.index("1 no ship", () -> x.isArrested(0));
        Check.index("1 no claim", () -> x.ofClaim(0, 0));
        Check.index("1 no event", () -> x.ofEvent(0, 0));
        for (int year = 0; year < 20; year++) {
            Check.equal("1 open", x.isClosed(year), false);
            Check.equal("1 cost", x.cost(year), 0);
            Check.equal("1 result", x.result(year), 0);
        }
        Check.equal("1 none", CallClub.NONE, -1);
        Check.equal("1 crew", CallClub.CREW, 0);
        Check.equal("1 cargo", CallClub.CARGO, 1);
        Check.equal("1 collision", CallClub.COLLISION, 2);
        Check.equal("1 pollution", CallClub.POLLUTION, 3);
    }

    private static void promise2Member() {
        CallClub x = new CallClub();
        for (int i = 0; i < 12; i++) {
            Check.equal("2 number", x.member(), i);
        }
        Check.state("2 thirteenth", x::member);
        Check.equal("2 the twelfth is there", x.owes(11), 0);
        Check.index("2 the thirteenth is not", () -> x.owes(12));
    }

    private static void promise3Ship() {
        CallClub x = new CallClub();
        Check.index("3 no member", () -> x.ship(0, 5));
        x.member();
        x.member();
        Check.index("3 member below 0", () -> x.ship(-1, 5));
        Check.index("3 member behind all, tonnage wrong too", () -> x.ship(2, 0));
        Check.argument("3 tonnage 0", () -> x.ship(0, 0));
        Check.argument("3 tonnage 1000", () -> x.ship(0, 1000));
        Check.equal("3 tonnage 1", x.ship(0, 1), 0);
        Check.equal("3 tonnage 999", x.ship(1, 999), 1);
        x.enter(0);
        x.enter(1);
        Check.equal("3 weight of 1", x.weight(0, 0), 100);
        Check.equal("3 weight of 999", x.weight(1, 0), 99900);
        for (int i = 2; i < 24; i++) {
            Check.equal("3 number", x.ship(i % 2, 10), i);
        }
        Check.state("3 25th", () -> x.ship(0, 10));
        Check.argument("3 25th with a wrong tonnage", () -> x.ship(0, 1000));
    }

    private static void promise4Enter() {
        CallClub x = new CallClub();
        Check.index("4 no ship", () -> x.enter(0));
        x.ship(x.member(), 10);
        Check.index("4 below 0", () -> x.enter(-1));
        Check.index("4 behind all", () -> x.enter(1));
        x.pass(30);
        x.enter(0);
        Check.equal("4 from today on", x.weight(0, 0), 700);
        Check.state("4 is entered", () -> x.enter(0));
        x.leave(0);
        x.enter(0);
        Check.equal("4 entered again", x.weight(0, 0), 700);
    }

    private static void promise4EnterAfterRelease() {
        CallClub x = Clubs.ofTonnages(10);
        x.ship(0, 20);
        x.pass(40);
        x.leave(0);
        x.release(0, 0);
        Check.state("4 released for the year of today", () -> x.enter(0));
        Check.state("4 released, another ship of it", () -> x.enter(1));
        x.pass(59);
        Check.state("4 released, last day of the year", () -> x.enter(1));
        x.pass(1);
        x.enter(1);
        Check.equal("4 the next year", x.weight(0, 1), 2000);
    }

    private static void promise4EntryLimit() {
        CallClub x = Clubs.ofTonnages(10, 20);
        for (int i = 0; i < 58; i++) {
            x.leave(0);
            x.enter(0);
        }
        x.leave(0);
        x.leave(1);
        Check.state("4 60 entries were told", () -> x.enter(1));
        Check.equal("4 nothing changed", x.weight(1, 0), 0);
    }

    private static void promise5Leave() {
        CallClub x = Clubs.ofTonnages(10);
        Check.index("5 below 0", () -> x.leave(-1));
        Check.index("5 behind all", () -> x.leave(1));
        x.pass(25);
        Check.equal("5 days", x.leave(0), 25);
        Check.equal("5 the day of leaving does not count", x.weight(0, 0), 250);
        Check.state("5 is not entered", () -> x.leave(0));
        x.pass(5);
        x.enter(0);
        Check.equal("5 the day of entering", x.leave(0), 0);
        x.enter(0);
        pass(x, 270);
        Check.equal("5 only this entry's days", x.leave(0), 270);
        Check.equal("5 weight of the first year", x.weight(0, 0), 950);
        Check.equal("5 weight of the last year", x.weight(0, 3), 0);
        CallClub y = new CallClub();
        y.ship(y.member(), 10);
        Check.state("5 was never entered", () -> y.leave(0));
    }

    private static void promise6Pass() {
        CallClub x = new CallClub();
        Check.argument("6 no day", () -> x.pass(0));
        Check.argument("6 below 0", () -> x.pass(-1));
        Check.argument("6 201", () -> x.pass(201));
        Check.equal("6 1", x.pass(1), 1);
        Check.equal("6 200", x.pass(200), 201);
        pass(x, 1600);
        Check.equal("6 far", x.pass(198), 1999);
        Check.state("6 above 1999", () -> x.pass(1));
        Check.argument("6 above 1999, days wrong too", () -> x.pass(201));
        Check.argument("6 very many", () -> x.pass(Integer.MAX_VALUE));
        Check.equal("6 nothing changed", x.day(), 1999);
    }

    private static void promise7Day() {
        CallClub x = new CallClub();
        x.pass(7);
        Check.equal("7 day", x.day(), 7);
        x.pass(120);
        Check.equal("7 day later", x.day(), 127);
    }

    private static void promise8Rate() {
        CallClub x = Clubs.ofTonnages(10, 10);
        Check.index("8 member below 0", () -> x.rate(-1, 0, 100));
        Check.index("8 no member, all else wrong", () -> x.rate(2, 20, 9));
        Check.argument("8 year below 0", () -> x.rate(0, -1, 100));
        Check.argument("8 year 20", () -> x.rate(0, 20, 100));
        Check.argument("8 hundredths 9", () -> x.rate(0, 0, 9));
        Check.argument("8 hundredths 501", () -> x.rate(0, 0, 501));
        Check.equal("8 100 at first", x.rate(0, 0, 10), 100);
        Check.equal("8 the one before", x.rate(0, 0, 500), 10);
        Check.equal("8 by years", x.rate(0, 19, 250), 100);
        Check.equal("8 by members", x.rate(1, 0, 120), 100);
        Check.equal("8 weight", x.weight(0, 0), 5000);
        Check.equal("8 weight of another year", x.weight(0, 1), 1000);
        Check.equal("8 weight of the last year", x.weight(0, 19), 2500);
        Check.equal("8 weight of another member", x.weight(1, 0), 1200);
    }

    private static void promise8RateClosedOrReleased() {
        CallClub x = Clubs.ofTonnages(10, 10);
        x.pass(50);
        x.leave(0);
        x.release(0, 0);
        Check.state("8 released in it", () -> x.rate(0, 0, 200));
        Check.argument("8 released in it, hundredths wrong too", () -> x.rate(0, 0, 501));
        Check.equal("8 not released in the next", x.rate(0, 1, 200), 100);
        Check.equal("8 another member", x.rate(1, 0, 200), 100);
        x.pass(50);
        Check.equal("8 over, but open", x.rate(1, 0, 150), 200);
        x.close(0);
        Check.state("8 closed", () -> x.rate(1, 0, 200));
        Check.equal("8 open behind it", x.rate(1, 1, 300), 100);
        Check.equal("8 nothing changed", x.weight(1, 0), 1500);
    }

    private static void promise9Weight() {
        CallClub x = Clubs.ofTonnages(10, 7);
        Check.index("9 below 0", () -> x.weight(-1, 0));
        Check.index("9 no member, year wrong too", () -> x.weight(2, 20));
        Check.argument("9 year below 0", () -> x.weight(0, -1));
        Check.argument("9 year 20", () -> x.weight(0, 20));
        x.enter(x.ship(0, 3));
        Check.equal("9 two ships", x.weight(0, 0), 1300);
        Check.equal("9 the other member", x.weight(1, 0), 700);
        Check.equal("9 all days to come", x.weight(0, 19), 1300);
        pass(x, 250);
        x.leave(0);
        Check.equal("9 a year in the middle", x.weight(0, 1), 1300);
        Check.equal("9 the year of leaving", x.weight(0, 2), 800);
        Check.equal("9 the year after", x.weight(0, 3), 300);
        x.leave(2);
        Check.equal("9 nothing any more", x.weight(0, 3), 0);
    }

    private static void promise9WeightReentered() {
        CallClub x = Clubs.ofTonnages(10);
        x.pass(20);
        x.leave(0);
        x.pass(30);
        x.enter(0);
        x.pass(100);
        x.leave(0);
        x.enter(0);
        Check.equal("9 with a gap", x.weight(0, 0), 700);
        Check.equal("9 the same day again", x.weight(0, 1), 1000);
    }

    private static void promise9WeightRoundedOnce() {
        CallClub x = Clubs.ofTonnages(1);
        x.enter(x.ship(0, 1));
        x.pass(7);
        x.leave(0);
        x.leave(1);
        x.rate(0, 0, 15);
        // 7 and 7 days of 1 are 14, and 210 hundredths of that; each by itself would be 1.
        Check.equal("9 divided once", x.weight(0, 0), 2);
        x.rate(0, 0, 10);
        Check.equal("9 rounded down", x.weight(0, 0), 1);
    }

    private static void promise10WeightAnew() {
        CallClub x = Clubs.ofTonnages(10, 7);
        Check.index("10 below 0", () -> x.weightAnew(-1, 0));
        Check.index("10 no member, year wrong too", () -> x.weightAnew(2, -1));
        Check.argument("10 year below 0", () -> x.weightAnew(0, -1));
        Check.argument("10 year 20", () -> x.weightAnew(0, 20));
        x.enter(x.ship(0, 3));
        x.rate(0, 1, 133);
        pass(x, 133);
        x.leave(0);
        x.pass(4);
        x.enter(0);
        x.leave(1);
        x.enter(1);
        x.pass(90);
        x.leave(2);
        Check.equal("10 the first year", x.weightAnew(0, 0), 1300);
        Check.equal("10 with a gap and a rating", x.weightAnew(0, 1), 1675);
        Check.equal("10 the year of leaving", x.weightAnew(0, 2), 1081);
        Check.equal("10 the last year", x.weightAnew(0, 19), 1000);
        for (int member = 0; member < 2; member++) {
            for (int year = 0; year < 20; year++) {
                Check.equal("10 the same", x.weightAnew(member, year), x.weight(member, year));
            }
        }
    }
}
