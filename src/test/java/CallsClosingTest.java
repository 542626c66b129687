/** Promises 21 to 31: advances, further calls, releases, payments, stops, closing, dues and the reserve. */
public final class CallsClosingTest {
    private static final int NONE = CallClub.NONE;
    private static final int CREW = CallClub.CREW;

    private CallsClosingTest() {
    }

    public static void main(String[] args) {
        promise21Advance();
        promise21AdvanceClosedOrReleased();
        promise22Further();
        promise22FurtherClosed();
        promise23ReleaseArguments();
        promise23ReleaseDue();
        promise23ReleaseOfSeveralYears();
        promise23ReleaseWithoutWeight();
        promise24Pay();
        promise24PayEndsTheStop();
        promise25Stop();
        promise25StopNotGoneOtherwise();
        promise26CloseOrder();
        promise26CloseSettled();
        promise26CloseShares();
        promise26CloseBelowZero();
        promise26CloseWithReleased();
        promise26CloseKeepsCovers();
        promise26CloseIsForEver();
        promise26CloseLargest();
        promise27Due();
        promise28Owes();
        promise29Result();
        promise30IsClosed();
        promise31Reserve();
        Check.end();
    }

    private static void dues(CallClub x, String what, int year, long... want) {
        for (int member = 0; member < want.length; member++) {
            Check.equal(what + ", member " + member, x.due(member, year), want[member]);
        }
    }

    private static void promise21Advance() {
        CallClub x = Clubs.ofTonnages(10, 999);
        Check.argument("21 year below 0", () -> x.advance(-1, 0));
        Check.argument("21 year 20", () -> x.advance(20, 0));
        Check.argument("21 cents below 0", () -> x.advance(0, -1));
        Check.argument("21 cents 1000001", () -> x.advance(0, 1000001));
        Check.equal("21 0 at first", x.advance(0, 1500), 0);
        dues(x, "21 for each 1000", 0, 1500, 149850);
        Check.equal("21 the one before", x.advance(0, 1000000), 1500);
        dues(x, "21 the highest", 0, 1000000, 99900000);
        Check.equal("21 nothing", x.advance(0, 0), 1000000);
        Check.equal("21 by years", x.advance(19, 7), 0);
        dues(x, "21 another year", 0, 0, 0);
        dues(x, "21 rounded down", 19, 7, 699);
    }

    private static void promise21AdvanceClosedOrReleased() {
        CallClub x = Clubs.ofTonnages(10, 10);
        x.advance(0, 50);
        x.pass(10);
        x.leave(0);
        x.release(0, 0);
        Check.state("21 someone was released", () -> x.advance(0, 60));
        Check.argument("21 someone was released, cents wrong too", () -> x.advance(0, -1));
        Check.equal("21 nothing changed", x.due(1, 0), 50);
        Check.equal("21 another year", x.advance(1, 60), 0);
        CallClub y = Clubs.ofTonnages(10);
        y.pass(100);
        y.close(0);
        Check.state("21 closed", () -> y.advance(0, 60));
        Check.equal("21 open behind it", y.advance(1, 60), 0);
    }

    private static void promise22Further() {
        CallClub x = Clubs.ofTonnages(10, 7);
        x.advance(0, 1001);
        Check.argument("22 year below 0", () -> x.further(-1, 1));
        Check.argument("22 year 20", () -> x.further(20, 1));
        Check.argument("22 hundredths 0", () -> x.further(0, 0));
        Check.argument("22 hundredths 201", () -> x.further(0, 201));
        Check.equal("22 the first", x.further(0, 50), 50);
        dues(x, "22 half of it besides", 0, 1501, 1050);
        Check.equal("22 all together", x.further(0, 50), 100);
        dues(x, "22 divided once for all", 0, 2002, 1400);
        for (int i = 0; i < 4; i++) {
            x.further(0, 200);
        }
        Check.state("22 above 1000", () -> x.further(0, 101));
        Check.equal("22 as much as 1000", x.further(0, 100), 1000);
        Check.state("22 above 1000 by 1", () -> x.further(0, 1));
        Check.argument("22 above 1000, hundredths wrong too", () -> x.further(0, 201));
        dues(x, "22 eleven times", 0, 11011, 7700);
        Check.equal("22 by years", x.further(1, 200), 200);
        Check.equal("22 no advance", x.due(0, 1), 0);
    }

    private static void promise22FurtherClosed() {
        CallClub x = Clubs.ofTonnages(10);
        x.pass(100);
        Check.equal("22 over, but open", x.further(0, 10), 10);
        x.close(0);
        Check.state("22 closed", () -> x.further(0, 10));
        Check.equal("22 open behind it", x.further(1, 10), 10);
    }

    private static void promise23ReleaseArguments() {
        CallClub x = Clubs.ofTonnages(10, 10);
        x.enter(x.ship(0, 5));
        x.advance(0, 1000);
        x.pass(50);
        Check.index("23 below 0", () -> x.release(-1, 0));
        Check.index("23 no member, hundredths wrong too", () -> x.release(2, 201));
        Check.argument("23 hundredths below 0", () -> x.release(0, -1));
        Check.argument("23 hundredths 201", () -> x.release(0, 201));
        Check.state("23 has ships entered", () -> x.release(0, 0));
        x.leave(2);
        Check.state("23 has its first ship entered", () -> x.release(0, 0));
        x.leave(0);
        x.enter(2);
        Check.state("23 has its last ship entered", () -> x.release(0, 0));
        Check.equal("23 nothing changed", x.rate(0, 0, 100), 100);
        x.leave(2);
        Check.equal("23 of one year", x.release(0, 200), 1);
        Check.equal("23 the highest", x.due(0, 0), 2250);
        Check.state("23 was released of it", () -> x.release(0, 10));
        Check.argument("23 was released of it, hundredths wrong too", () -> x.release(0, 201));
        Check.equal("23 for ever", x.due(0, 0), 2250);
        x.leave(1);
        Check.equal("23 another member", x.release(1, 0), 1);
        Check.equal("23 without hundredths", x.due(1, 0), 500);
    }

    private static void promise23ReleaseDue() {
        CallClub x = Clubs.ofTonnages(10, 10);
        x.advance(0, 1111);
        x.further(0, 33);
        x.pass(99);
        x.leave(0);
        // 990 of weight are 1099 of advance; 362 of further calls and 186 of the release, each divided by itself.
        Check.equal("23 ahead of it", x.due(0, 0), 1461);
        x.release(0, 17);
        Check.equal("23 released", x.due(0, 0), 1647);
        x.further(0, 100);
        Check.equal("23 in no further call", x.due(0, 0), 1647);
        Check.equal("23 the others are", x.due(1, 0), 2588);
        Check.equal("23 owes it", x.owes(0), 1647);
    }

    private static void promise23ReleaseOfSeveralYears() {
        CallClub x = Clubs.ofTonnages(10, 10);
        x.pass(200);
        x.pass(150);
        x.close(0);
        x.leave(0);
        x.advance(1, 100);
        Check.equal("23 of the open years with a weight", x.release(0, 10), 3);
        Check.equal("23 a full year", x.due(0, 1), 110);
        Check.equal("23 a year without an advance", x.due(0, 2), 0);
        Check.state("23 of the year of today too", () -> x.rate(0, 3, 100));
        Check.equal("23 not of the next", x.rate(0, 4, 100), 100);
        x.pass(50);
        x.advance(4, 100);
        x.enter(0);
        x.pass(30);
        x.leave(0);
        Check.equal("23 of the year that came besides", x.release(0, 50), 1);
        Check.equal("23 its due", x.due(0, 4), 45);
        Check.equal("23 the earlier stays", x.due(0, 1), 110);
    }

    private static void promise23ReleaseWithoutWeight() {
        CallClub x = new CallClub();
        x.member();
        Check.state("23 no ship", () -> x.release(0, 0));
        x.ship(0, 1);
        x.enter(0);
        x.leave(0);
        Check.state("23 entered for no day", () -> x.release(0, 0));
        x.enter(0);
        x.pass(9);
        x.leave(0);
        x.rate(0, 0, 10);
        Check.state("23 a weight below 1", () -> x.release(0, 0));
        x.rate(0, 0, 12);
        Check.equal("23 a weight of 1", x.release(0, 0), 1);
        CallClub y = Clubs.ofTonnages(10);
        y.pass(100);
        y.leave(0);
        y.close(0);
        Check.state("23 a weight in a closed year only", () -> y.release(0, 0));
    }

    private static void promise24Pay() {
        CallClub x = Clubs.ofTonnages(10, 10);
        x.advance(0, 1000);
        Check.index("24 below 0", () -> x.pay(-1, 1));
        Check.index("24 no member, cents wrong too", () -> x.pay(2, 0));
        Check.argument("24 no cents", () -> x.pay(0, 0));
        Check.argument("24 cents below 0", () -> x.pay(0, -1));
        Check.argument("24 cents 1000000001", () -> x.pay(0, 1000000001));
        Check.equal("24 owes then", x.pay(0, 1), 999);
        Check.equal("24 owes nothing", x.pay(0, 999), 0);
        Check.equal("24 below 0", x.pay(0, 1000000000), -1000000000L);
        Check.equal("24 and more", x.pay(0, 1000000000), -2000000000L);
        Check.equal("24 and more than an int", x.pay(0, 1000000000), -3000000000L);
        Check.equal("24 the other", x.owes(1), 1000);
        Check.equal("24 what is due stays", x.due(0, 0), 1000);
    }

    private static void promise24PayEndsTheStop() {
        CallClub x = Clubs.ofTonnages(10, 10);
        x.advance(0, 1000);
        x.pass(50);
        x.claim(0, CREW, 30, 700, NONE);
        x.claim(1, CREW, 30, 40, NONE);
        x.stop(0, 20);
        x.stop(1, 20);
        Check.equal("24 stopped", x.cost(0), 0);
        x.pay(0, 999);
        Check.equal("24 still stopped", x.cost(0), 0);
        x.pay(0, 1);
        Check.equal("24 as if it had never been", x.cost(0), 700);
        x.pay(1, 1001);
        Check.equal("24 below 0", x.cost(0), 740);
        x.advance(0, 3000);
        Check.equal("25 no stop before", x.stop(0, 10), NONE);
        Check.equal("25 stopped anew", x.cost(0), 40);
    }

    private static void promise25Stop() {
        CallClub x = Clubs.ofTonnages(10, 10);
        x.pass(50);
        x.claim(0, CREW, 30, 700, NONE);
        Check.index("25 below 0", () -> x.stop(-1, 0));
        Check.index("25 no member, day wrong too", () -> x.stop(2, 51));
        Check.argument("25 day below 0", () -> x.stop(0, -1));
        Check.argument("25 tomorrow, and owes nothing", () -> x.stop(0, 51));
        Check.state("25 owes nothing", () -> x.stop(0, 0));
        x.advance(0, 1);
        Check.equal("25 without a stop before", x.stop(0, 50), NONE);
        Check.equal("25 a claim ahead of it", x.cost(0), 700);
        Check.equal("25 the one before", x.stop(0, 30), 50);
        Check.equal("25 a claim on its day", x.cost(0), 0);
        Check.equal("25 in place of it", x.stop(0, 31), 30);
        Check.equal("25 covered again", x.cost(0), 700);
        Check.equal("25 back to the first day", x.stop(0, 0), 31);
        Check.equal("25 a stop on day 0", x.stop(0, 0), 0);
        x.claim(1, CREW, 30, 50, NONE);
        Check.equal("25 not the other", x.cost(0), 50);
        x.pass(10);
        x.claim(0, CREW, 60, 7000, NONE);
        Check.equal("25 all days behind it", x.cost(0), 50);
        x.pay(1, 5);
        Check.state("25 owes less than nothing", () -> x.stop(1, 0));
    }

    private static void promise25StopNotGoneOtherwise() {
        CallClub x = Clubs.ofTonnages(10);
        x.advance(0, 1000);
        x.claim(0, CREW, 0, 700, NONE);
        x.stop(0, 0);
        x.advance(0, 0);
        Check.equal("25 owes nothing otherwise", x.owes(0), 0);
        Check.equal("25 stopped all the same", x.cost(0), 0);
        x.pay(0, 1);
        Check.equal("25 pays so that it owes nothing", x.cost(0), 700);
    }

    private static void promise26CloseOrder() {
        CallClub x = Clubs.ofTonnages(10);
        Check.argument("26 year below 0", () -> x.close(-1));
        Check.argument("26 year 20", () -> x.close(20));
        Check.state("26 today's year", () -> x.close(0));
        x.pass(99);
        Check.state("26 its last day", () -> x.close(0));
        x.pass(101);
        Check.state("26 the one ahead is open", () -> x.close(1));
        Check.equal("26 over", x.close(0), 0);
        Check.state("26 is closed", () -> x.close(0));
        Check.equal("26 in order", x.close(1), 0);
        Check.state("26 not over", () -> x.close(2));
        for (int i = 0; i < 8; i++) {
            x.pass(200);
        }
        x.pass(199);
        for (int year = 2; year < 19; year++) {
            Check.equal("26 all in order", x.close(year), 0);
        }
        Check.state("26 the last year is never over", () -> x.close(19));
    }

    private static void promise26CloseSettled() {
        CallClub x = Clubs.ofTonnages(10);
        x.claim(0, CREW, 0, 10, NONE);
        x.pass(100);
        x.claim(0, CREW, 99, 20, NONE);
        x.claim(0, CREW, 100, 20, NONE);
        x.settle(0, false);
        Check.state("26 a claim is not settled", () -> x.close(0));
        Check.equal("26 nothing changed", x.isClosed(0), false);
        x.settle(1, true);
        Check.equal("26 settled and struck", x.close(0), 10);
        CallClub y = new CallClub();
        y.ship(y.member(), 10);
        y.claim(0, CREW, 0, 10, NONE);
        y.pass(100);
        Check.state("26 not covered, not settled", () -> y.close(0));
        y.settle(0, false);
        Check.equal("26 not covered, settled", y.close(0), 0);
    }

    private static void promise26CloseShares() {
        CallClub x = Clubs.ofTonnages(10, 30, 20);
        x.member();
        x.advance(0, 1000);
        x.claim(1, CREW, 0, 1004, NONE);
        x.pass(100);
        x.settle(0, false);
        Check.equal("26 its cost", x.close(0), 1004);
        // 1004 by 10, 30 and 20 of 60: 167.3, 502 and 334.7 are rounded down; one is left for the lowest.
        dues(x, "26 shares", 0, 168, 502, 334, 0);
        CallClub y = Clubs.ofTonnages(10, 10, 10, 10);
        y.claim(0, CREW, 0, 11, NONE);
        y.pass(100);
        y.settle(0, false);
        y.close(0);
        dues(y, "26 one more each, the lowest ones", 0, 3, 3, 3, 2);
        CallClub z = Clubs.ofTonnages(10, 10, 10);
        z.leave(0);
        z.claim(1, CREW, 0, 5, NONE);
        z.pass(100);
        z.settle(0, false);
        z.close(0);
        dues(z, "26 only who has a weight", 0, 0, 3, 2);
        CallClub one = Clubs.ofTonnages(1);
        one.claim(0, CREW, 0, 5, NONE);
        one.pass(1);
        one.leave(0);
        one.pass(99);
        one.settle(0, false);
        one.close(0);
        dues(one, "26 a weight of 1 bears it all", 0, 5);
        Check.equal("26 nothing is left for the reserve", one.reserve(), 0);
    }

    private static void promise26CloseBelowZero() {
        CallClub x = Clubs.ofTonnages(10, 10, 20);
        x.advance(0, 1000);
        x.enter(x.ship(x.member(), 7));
        x.claim(0, CREW, 0, 93, NONE);
        x.pass(10);
        x.leave(3);
        x.release(3, 43);
        Check.equal("26 due of the released", x.due(3, 0), 100);
        x.pass(90);
        x.settle(0, false);
        Check.equal("26 the cost, not the rest", x.close(0), 93);
        // -7 by 10, 10 and 20 of 40: -1.75, -1.75 and -3.5 are rounded down to -2, -2 and -4; one is left.
        dues(x, "26 rounded down below 0", 0, -1, -2, -4, 100);
        Check.equal("26 sums to nothing", x.result(0), 0);
        Check.equal("26 not from the reserve", x.reserve(), 0);
    }

    private static void promise26CloseWithReleased() {
        CallClub x = Clubs.ofTonnages(10, 10, 30);
        x.advance(0, 1000);
        x.claim(0, CREW, 0, 5000, NONE);
        x.pass(100);
        x.leave(0);
        x.release(0, 100);
        x.rate(2, 0, 100);
        x.settle(0, false);
        Check.equal("26 cost", x.close(0), 5000);
        dues(x, "26 the rest of the others", 0, 2000, 750, 2250);
        x.pass(5);
        dues(x, "26 for ever", 0, 2000, 750, 2250);
        Check.equal("26 owes it", x.owes(2), 2250);
    }

    private static void promise26CloseKeepsCovers() {
        CallClub x = Clubs.ofTonnages(10, 10);
        x.advance(1, 1000);
        x.claim(0, CREW, 0, 700, NONE);
        x.claim(1, CREW, 0, 50, NONE);
        x.pass(150);
        x.claim(0, CREW, 150, 6000, NONE);
        x.claim(1, CREW, 150, 400, NONE);
        x.settle(0, false);
        x.settle(1, false);
        x.stop(0, 0);
        Check.equal("26 without the stopped", x.close(0), 50);
        x.stop(1, 0);
        Check.equal("26 the open year changes", x.cost(1), 0);
        Check.equal("26 covered then", x.ofClaim(1, 2), 1);
        Check.equal("26 what counts stays", x.ofClaim(1, 5), 50);
        x.pay(0, 100000);
        Check.equal("26 the open year changes again", x.cost(1), 6000);
        Check.equal("26 not covered then", x.ofClaim(0, 2), 0);
        Check.equal("26 the stop was there then", x.ofEvent(0, 0), 0);
        Check.equal("26 the cost stays", x.cost(0), 50);
        dues(x, "26 the shares stay", 0, 25, 25);
    }

    private static void promise26CloseIsForEver() {
        CallClub x = Clubs.ofTonnages(10, 10);
        x.advance(0, 1000);
        x.further(0, 100);
        x.pass(100);
        dues(x, "26 ahead of it", 0, 2000, 2000);
        x.close(0);
        dues(x, "26 in place of the calls", 0, 0, 0);
        x.member();
        Check.equal("26 of one who came later", x.due(2, 0), 0);
        Check.equal("26 the weight stays", x.weight(0, 0), 1000);
    }

    private static void promise26CloseLargest() {
        CallClub x = new CallClub();
        x.member();
        x.member();
        for (int ship = 0; ship < 24; ship++) {
            x.enter(x.ship(ship % 2, 999));
        }
        x.rate(0, 0, 500);
        x.rate(1, 0, 500);
        x.advance(0, 1000000);
        for (int i = 0; i < 5; i++) {
            x.further(0, 200);
        }
        x.pass(100);
        for (int ship = 0; ship < 24; ship += 2) {
            x.leave(ship);
        }
        x.release(0, 200);
        // 5994000 of weight, 5994000000 of advance, ten times that and twice that besides.
        dues(x, "26 the largest", 0, 77922000000L, 65934000000L);
        x.close(0);
        dues(x, "26 the largest, shared", 0, 77922000000L, -77922000000L);
        Check.equal("26 the largest sums to nothing", x.result(0), 0);
    }

    private static void promise27Due() {
        CallClub x = Clubs.ofTonnages(10, 15);
        Check.index("27 below 0", () -> x.due(-1, 0));
        Check.index("27 no member, year wrong too", () -> x.due(2, 20));
        Check.argument("27 year below 0", () -> x.due(0, -1));
        Check.argument("27 year 20", () -> x.due(0, 20));
        Check.equal("27 nothing at first", x.due(0, 0), 0);
        x.advance(0, 333);
        x.rate(1, 0, 99);
        dues(x, "27 by the weight", 0, 333, 494);
        x.further(0, 99);
        dues(x, "27 with the further calls", 0, 662, 983);
        x.pass(50);
        x.leave(0);
        Check.equal("27 as the weight becomes less", x.due(0, 0), 330);
        x.advance(19, 2000);
        Check.equal("27 of the last year", x.due(1, 19), 3000);
    }

    private static void promise28Owes() {
        CallClub x = Clubs.ofTonnages(10, 10);
        Check.index("28 below 0", () -> x.owes(-1));
        Check.index("28 behind all", () -> x.owes(2));
        Check.equal("28 nothing", x.owes(0), 0);
        x.advance(0, 100);
        x.advance(1, 20);
        x.advance(19, 3);
        Check.equal("28 all years", x.owes(0), 123);
        x.pay(0, 200);
        Check.equal("28 below 0", x.owes(0), -77);
        Check.equal("28 the other", x.owes(1), 123);
        x.claim(0, CREW, 0, 10, NONE);
        x.pass(100);
        x.settle(0, false);
        x.close(0);
        Check.equal("28 as a year is closed", x.owes(0), -172);
        x.leave(1);
        Check.equal("28 as it leaves", x.owes(1), 5);
        CallClub y = Clubs.ofTonnages(999);
        for (int year = 0; year < 20; year++) {
            y.advance(year, 1000000);
        }
        Check.equal("28 the largest", y.owes(0), 1998000000L);
    }

    private static void promise29Result() {
        CallClub x = Clubs.ofTonnages(10, 10);
        Check.argument("29 year below 0", () -> x.result(-1));
        Check.argument("29 year 20", () -> x.result(20));
        x.claim(0, CREW, 0, 1700, NONE);
        Check.equal("29 below 0", x.result(0), -1700);
        x.advance(0, 800);
        Check.equal("29 not enough", x.result(0), -100);
        x.further(0, 10);
        Check.equal("29 enough", x.result(0), 60);
        x.pool(0, 0, 1700, 50);
        Check.equal("29 less what the club bears", x.result(0), 910);
        Check.equal("29 another year", x.result(1), 0);
        x.pass(100);
        x.leave(0);
        x.release(0, 50);
        Check.equal("29 with the released", x.result(0), 1310);
        x.settle(0, false);
        x.close(0);
        Check.equal("29 closed", x.result(0), 0);
        x.pay(0, 5);
        Check.equal("29 payments are not in it", x.result(0), 0);
    }

    private static void promise30IsClosed() {
        CallClub x = Clubs.ofTonnages(10);
        Check.argument("30 year below 0", () -> x.isClosed(-1));
        Check.argument("30 year 20", () -> x.isClosed(20));
        x.pass(100);
        Check.equal("30 over, not closed", x.isClosed(0), false);
        x.close(0);
        Check.equal("30 closed", x.isClosed(0), true);
        Check.equal("30 the next", x.isClosed(1), false);
        Check.equal("30 the last", x.isClosed(19), false);
    }

    private static void promise31Reserve() {
        CallClub x = Clubs.ofTonnages(10);
        x.advance(0, 1000);
        x.advance(1, 4000);
        x.claim(0, CREW, 0, 700, NONE);
        x.pass(50);
        x.leave(0);
        x.release(0, 30);
        x.pass(50);
        x.settle(0, false);
        Check.equal("31 nothing ahead of the closing", x.reserve(), 0);
        x.close(0);
        // 500 of advance and 150 of the release are due, 700 is the cost.
        Check.equal("31 less by the rest", x.reserve(), -50);
        Check.equal("31 the year's result", x.result(0), -50);
        x.enter(0);
        x.pass(50);
        x.leave(0);
        x.release(0, 0);
        x.pass(50);
        x.close(1);
        Check.equal("31 more by what is above", x.reserve(), 1950);
        x.pass(100);
        x.close(2);
        Check.equal("31 as it was", x.reserve(), 1950);
        x.pay(0, 10);
        Check.equal("31 payments are not in it", x.reserve(), 1950);
    }
}
