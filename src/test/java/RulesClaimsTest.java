/** Promises 11 to 20: rules, pools, claims, collisions, events and costs. */
public final class RulesClaimsTest {
    private static final int NONE = CallClub.NONE;
    private static final int CREW = CallClub.CREW;
    private static final int CARGO = CallClub.CARGO;
    private static final int COLLISION = CallClub.COLLISION;
    private static final int POLLUTION = CallClub.POLLUTION;

    private RulesClaimsTest() {
    }

    public static void main(String[] args) {
        promise11RuleArguments();
        promise11RuleDeductibleAndLimit();
        promise11RuleByYearsAndKinds();
        promise11RuleClosed();
        promise12PoolArguments();
        promise12PoolLayers();
        promise12PoolByYears();
        promise13ClaimArguments();
        promise13ClaimEvents();
        promise13ClaimClosedYear();
        promise13ClaimLimit();
        promise14CollideArguments();
        promise14CollideLosses();
        promise14CollideLimit();
        promise15Estimate();
        promise16Settle();
        promise17Broken();
        promise18OfClaim();
        promise18Covered();
        promise18CoveredOnTheDayOfLeaving();
        promise19OfEvent();
        promise19Groups();
        promise20Cost();
        Check.end();
    }

    /** Two members with a ship of the tonnage 10 each, of the first one a second ship of 20; all entered. */
    private static CallClub club() {
        CallClub x = new CallClub();
        x.member();
        x.member();
        x.ship(0, 10);
        x.ship(1, 10);
        x.ship(0, 20);
        x.enter(0);
        x.enter(1);
        x.enter(2);
        return x;
    }

    private static void promise11RuleArguments() {
        CallClub x = club();
        Check.argument("11 kind below 0", () -> x.rule(-1, 0, 0, 0));
        Check.argument("11 kind 4", () -> x.rule(4, 0, 0, 0));
        Check.argument("11 year below 0", () -> x.rule(0, -1, 0, 0));
        Check.argument("11 year 20", () -> x.rule(0, 20, 0, 0));
        Check.argument("11 deductible below 0", () -> x.rule(0, 0, -1, 0));
        Check.argument("11 deductible 1000001", () -> x.rule(0, 0, 1000001, 0));
        Check.argument("11 limit below 0", () -> x.rule(0, 0, 0, -1));
        Check.argument("11 limit 10000001", () -> x.rule(0, 0, 0, 10000001));
        x.claim(0, CREW, 0, 900, NONE);
        Check.equal("11 nothing changed", x.cost(0), 900);
        x.rule(0, 0, 1000000, 10000000);
        Check.equal("11 the highest deductible", x.cost(0), 0);
        x.rule(0, 0, 0, 0);
        Check.equal("11 the limit 0", x.cost(0), 0);
        x.rule(3, 19, 0, 0);
        Check.equal("11 another kind and year", x.cost(0), 0);
    }

    private static void promise11RuleDeductibleAndLimit() {
        CallClub x = club();
        x.claim(0, CARGO, 0, 1000, NONE);
        x.rule(CARGO, 0, 300, 1000);
        Check.equal("11 less the deductible", x.cost(0), 700);
        x.rule(CARGO, 0, 300, 900);
        Check.equal("11 the limit first, then the deductible", x.cost(0), 600);
        x.rule(CARGO, 0, 900, 900);
        Check.equal("11 the deductible as the limit", x.cost(0), 0);
        x.rule(CARGO, 0, 901, 900);
        Check.equal("11 at least 0", x.cost(0), 0);
        x.rule(CARGO, 0, 0, 900);
        Check.equal("11 the last told", x.cost(0), 900);
    }

    private static void promise11RuleByYearsAndKinds() {
        CallClub x = club();
        x.claim(0, CREW, 0, 1000, NONE);
        x.pass(200);
        x.pass(150);
        for (int year = 1; year < 4; year++) {
            x.claim(0, CREW, year * 100, 1000, NONE);
        }
        x.claim(0, CARGO, 300, 1000, NONE);
        x.rule(CREW, 2, 20, 10000000);
        Check.equal("11 a year ahead is as before", x.cost(1), 1000);
        Check.equal("11 its year", x.cost(2), 980);
        Check.equal("11 a year behind it, and another kind", x.cost(3), 1980);
        x.rule(CREW, 0, 10, 10000000);
        Check.equal("11 told later for an earlier year", x.cost(0), 990);
        Check.equal("11 up to the next", x.cost(1), 990);
        Check.equal("11 the latest year counts", x.cost(2), 980);
        Check.equal("11 the latest year counts behind it", x.cost(3), 1980);
        x.rule(CARGO, 3, 7, 500);
        Check.equal("11 by kinds", x.cost(3), 1473);
    }

    private static void promise11RuleClosed() {
        CallClub x = club();
        x.pass(150);
        x.claim(0, CREW, 120, 1000, NONE);
        x.rule(CREW, 0, 40, 10000000);
        x.close(0);
        Check.state("11 closed", () -> x.rule(CREW, 0, 50, 10000000));
        Check.argument("11 closed, limit wrong too", () -> x.rule(CREW, 0, 50, -1));
        Check.equal("11 a closed year's rule goes on", x.cost(1), 960);
        x.rule(CREW, 1, 50, 10000000);
        Check.equal("11 open behind it", x.cost(1), 950);
    }

    private static void promise12PoolArguments() {
        CallClub x = club();
        Check.argument("12 year below 0", () -> x.pool(-1, 0, 0, 0));
        Check.argument("12 year 20", () -> x.pool(20, 0, 0, 0));
        Check.argument("12 retention below 0", () -> x.pool(0, -1, 0, 0));
        Check.argument("12 retention 10000001", () -> x.pool(0, 10000001, 20000000, 0));
        Check.argument("12 bound below retention", () -> x.pool(0, 100, 99, 0));
        Check.argument("12 bound 100000001", () -> x.pool(0, 0, 100000001, 0));
        Check.argument("12 share below 0", () -> x.pool(0, 0, 0, -1));
        Check.argument("12 share 101", () -> x.pool(0, 0, 0, 101));
        x.claim(0, CREW, 0, 1000, NONE);
        Check.equal("12 nothing changed", x.cost(0), 1000);
        x.pool(0, 10000000, 10000000, 0);
        Check.equal("12 the highest retention", x.cost(0), 1000);
        x.pool(0, 0, 100000000, 0);
        Check.equal("12 the highest bound", x.cost(0), 0);
        x.pool(0, 0, 0, 0);
        Check.equal("12 all above the bound", x.cost(0), 1000);
        x.pass(100);
        x.settle(0, false);
        x.close(0);
        Check.state("12 closed", () -> x.pool(0, 0, 100, 0));
        Check.argument("12 closed, share wrong too", () -> x.pool(0, 0, 100, 101));
        x.pool(1, 0, 100, 0);
    }

    private static void promise12PoolLayers() {
        CallClub x = club();
        x.pool(0, 100, 1000, 33);
        x.claim(0, CREW, 0, 100, NONE);
        Check.equal("12 up to the retention", x.ofEvent(0, 1), 100);
        x.estimate(0, 101);
        Check.equal("12 a share rounded down", x.ofEvent(0, 1), 100);
        x.estimate(0, 104);
        Check.equal("12 a share of 4", x.ofEvent(0, 1), 101);
        x.estimate(0, 1000);
        Check.equal("12 up to the bound", x.ofEvent(0, 1), 397);
        x.estimate(0, 1001);
        Check.equal("12 all above the bound", x.ofEvent(0, 1), 398);
        x.pool(0, 100, 1000, 100);
        Check.equal("12 the whole share", x.ofEvent(0, 1), 1001);
        x.pool(0, 0, 2000, 50);
        Check.equal("12 the latest counts, without a retention", x.ofEvent(0, 1), 500);
        Check.equal("12 the event costs as before", x.ofEvent(0, 0), 1001);
    }

    private static void promise12PoolByYears() {
        CallClub x = club();
        x.pool(0, 0, 1000, 10);
        x.pool(1, 100, 1000, 10);
        x.pass(200);
        x.claim(0, CREW, 99, 205, NONE);
        x.claim(0, CREW, 100, 200, NONE);
        x.claim(0, CREW, 200, 200, NONE);
        x.claim(0, CREW, 99, 205, NONE);
        Check.equal("12 by events, not by the sum", x.cost(0), 40);
        Check.equal("12 its own year", x.cost(1), 110);
        Check.equal("12 no pool of a year ahead", x.cost(2), 200);
    }

    private static void promise13ClaimArguments() {
        CallClub x = club();
        x.pass(5);
        Check.index("13 ship below 0", () -> x.claim(-1, 0, 0, 0, NONE));
        Check.index("13 no ship, all else wrong", () -> x.claim(3, 4, 6, -1, 0));
        Check.index("13 no event", () -> x.claim(0, 0, 0, 0, 0));
        Check.index("13 event below NONE, kind wrong too", () -> x.claim(0, 4, 0, 0, -2));
        Check.argument("13 kind below 0", () -> x.claim(0, -1, 0, 0, NONE));
        Check.argument("13 kind 4", () -> x.claim(0, 4, 0, 0, NONE));
        Check.argument("13 day below 0", () -> x.claim(0, 0, -1, 0, NONE));
        Check.argument("13 tomorrow", () -> x.claim(0, 0, 6, 0, NONE));
        Check.argument("13 loss below 0", () -> x.claim(0, 0, 0, -1, NONE));
        Check.argument("13 loss 100000001", () -> x.claim(0, 0, 0, 100000001, NONE));
        Check.index("13 no claim was told", () -> x.ofClaim(0, 0));
        Check.index("13 no event was told", () -> x.ofEvent(0, 0));
        Check.equal("13 today, no loss", x.claim(0, 0, 5, 0, NONE), 0);
        Check.equal("13 the first day, the highest loss", x.claim(0, 3, 0, 100000000, NONE), 1);
        Check.equal("13 its loss", x.ofClaim(1, 0), 100000000);
    }

    private static void promise13ClaimEvents() {
        CallClub x = club();
        x.pass(5);
        x.claim(0, CREW, 3, 10, NONE);
        x.claim(0, CREW, 3, 20, NONE);
        Check.equal("13 a new event", x.ofClaim(1, 1), 1);
        Check.argument("13 another day", () -> x.claim(1, CREW, 4, 30, 0));
        Check.equal("13 of an event", x.claim(1, CREW, 3, 30, 0), 2);
        Check.equal("13 its event", x.ofClaim(2, 1), 0);
        Check.equal("13 how many", x.ofEvent(0, 3), 2);
        Check.index("13 the next event", () -> x.claim(1, CREW, 3, 30, 2));
        int first = x.collide(0, 1, 50, 10, 10);
        x.claim(2, CREW, 5, 30, (int) x.ofClaim(first, 1));
        Check.equal("13 of the event of a collision", x.ofEvent(2, 3), 3);
    }

    private static void promise13ClaimClosedYear() {
        CallClub x = club();
        x.claim(0, CREW, 0, 10, NONE);
        x.settle(0, false);
        x.pass(100);
        x.claim(0, CREW, 99, 10, NONE);
        x.settle(1, false);
        x.close(0);
        Check.state("13 closed", () -> x.claim(0, CREW, 99, 10, NONE));
        Check.state("13 closed, of an event", () -> x.claim(0, CREW, 0, 10, 0));
        Check.argument("13 closed, another day", () -> x.claim(0, CREW, 1, 10, 0));
        Check.equal("13 the next year", x.claim(0, CREW, 100, 10, NONE), 2);
        Check.equal("13 its event", x.ofClaim(2, 1), 2);
    }

    private static void promise13ClaimLimit() {
        CallClub x = club();
        for (int i = 0; i < 60; i++) {
            Check.equal("13 number", x.claim(0, CREW, 0, 10, NONE), i);
        }
        Check.state("13 there are 60", () -> x.claim(0, CREW, 0, 10, NONE));
        Check.state("13 there are 60, of an event", () -> x.claim(0, CREW, 0, 10, 59));
        Check.index("13 there are 60, no event", () -> x.claim(0, CREW, 0, 10, 60));
        Check.equal("13 nothing changed", x.ofEvent(59, 3), 1);
        Check.equal("13 the cost", x.cost(0), 600);
    }

    private static void promise14CollideArguments() {
        CallClub x = club();
        Check.index("14 first below 0", () -> x.collide(-1, 1, 0, 0, 0));
        Check.index("14 first behind all", () -> x.collide(3, 1, 0, 0, 0));
        Check.index("14 second below 0", () -> x.collide(0, -1, 0, 0, 0));
        Check.index("14 both behind all, the same", () -> x.collide(3, 3, 101, -1, -1));
        Check.index("14 second behind all, fault wrong too", () -> x.collide(0, 3, 101, 0, 0));
        Check.argument("14 the same", () -> x.collide(1, 1, 0, 0, 0));
        Check.argument("14 fault below 0", () -> x.collide(0, 1, -1, 0, 0));
        Check.argument("14 fault 101", () -> x.collide(0, 1, 101, 0, 0));
        Check.argument("14 loss below 0", () -> x.collide(0, 1, 0, -1, 0));
        Check.argument("14 loss 100000001", () -> x.collide(0, 1, 0, 100000001, 0));
        Check.argument("14 other below 0", () -> x.collide(0, 1, 0, 0, -1));
        Check.argument("14 other 100000001", () -> x.collide(0, 1, 0, 0, 100000001));
        Check.index("14 nothing was told", () -> x.ofEvent(0, 0));
    }

    private static void promise14CollideLosses() {
        CallClub x = club();
        x.pass(12);
        x.rule(COLLISION, 0, 5, 10000000);
        Check.equal("14 the first claim", x.collide(0, 1, 30, 1001, 2003), 0);
        Check.equal("14 of the other's loss", x.ofClaim(0, 0), 600);
        Check.equal("14 of the first one's loss", x.ofClaim(1, 0), 700);
        Check.equal("14 one event", x.ofClaim(1, 1), x.ofClaim(0, 1));
        Check.equal("14 two claims", x.ofEvent(0, 3), 2);
        Check.equal("14 today", x.ofEvent(0, 2), 12);
        Check.equal("14 of the kind COLLISION, a deductible each", x.ofEvent(0, 0), 1290);
        Check.equal("14 the next", x.collide(2, 0, 0, 77, 88), 2);
        Check.equal("14 no fault", x.ofClaim(2, 0), 0);
        Check.equal("14 all the fault of the other", x.ofClaim(3, 0), 77);
        Check.equal("14 a new event", x.ofClaim(3, 1), 1);
        x.collide(0, 2, 100, 100000000, 100000000);
        Check.equal("14 the highest loss", x.ofClaim(4, 0), 100000000);
        Check.equal("14 nothing of the first one's", x.ofClaim(5, 0), 0);
        x.collide(0, 2, 1, 99, 99);
        Check.equal("14 rounded down", x.ofClaim(6, 0), 0);
        Check.equal("14 rounded down too", x.ofClaim(7, 0), 98);
    }

    private static void promise14CollideLimit() {
        CallClub x = club();
        for (int i = 0; i < 58; i++) {
            x.claim(0, CREW, 0, 10, NONE);
        }
        Check.equal("14 58 claims", x.collide(0, 1, 50, 10, 10), 58);
        Check.state("14 60 claims", () -> x.collide(0, 1, 50, 10, 10));
        CallClub y = club();
        for (int i = 0; i < 59; i++) {
            y.claim(0, CREW, 0, 10, NONE);
        }
        Check.state("14 59 claims", () -> y.collide(0, 1, 50, 10, 10));
        Check.argument("14 59 claims, the same", () -> y.collide(0, 0, 50, 10, 10));
        Check.index("14 nothing changed", () -> y.ofClaim(59, 0));
        Check.equal("14 one more claim", y.claim(0, CREW, 0, 10, NONE), 59);
    }

    private static void promise15Estimate() {
        CallClub x = club();
        x.claim(0, CREW, 0, 10, NONE);
        Check.index("15 below 0", () -> x.estimate(-1, 0));
        Check.index("15 no claim, loss wrong too", () -> x.estimate(1, -1));
        Check.argument("15 loss below 0", () -> x.estimate(0, -1));
        Check.argument("15 loss 100000001", () -> x.estimate(0, 100000001));
        Check.equal("15 the loss before", x.estimate(0, 100000000), 10);
        Check.equal("15 the highest before", x.estimate(0, 0), 100000000);
        Check.equal("15 none before", x.estimate(0, 700), 0);
        Check.equal("15 the cost grows with it", x.cost(0), 700);
        x.settle(0, false);
        Check.state("15 settled", () -> x.estimate(0, 800));
        Check.argument("15 settled, loss wrong too", () -> x.estimate(0, -1));
        Check.equal("15 nothing changed", x.ofClaim(0, 0), 700);
    }

    private static void promise16Settle() {
        CallClub x = club();
        x.claim(0, CREW, 0, 10, NONE);
        x.claim(0, CREW, 0, 20, NONE);
        Check.index("16 below 0", () -> x.settle(-1, false));
        Check.index("16 behind all", () -> x.settle(2, true));
        x.settle(0, false);
        Check.equal("16 settled", x.ofClaim(0, 3), 1);
        Check.equal("16 its loss stays", x.ofClaim(0, 0), 10);
        Check.equal("16 the other is not", x.ofClaim(1, 3), 0);
        x.settle(1, true);
        Check.equal("16 struck", x.ofClaim(1, 0), 0);
        Check.equal("16 struck is settled", x.ofClaim(1, 3), 1);
        Check.equal("16 the cost", x.cost(0), 10);
        Check.state("16 settled again", () -> x.settle(0, false));
        Check.state("16 settled, struck then", () -> x.settle(0, true));
        Check.equal("16 nothing changed", x.ofClaim(0, 0), 10);
    }

    private static void promise17Broken() {
        CallClub x = club();
        x.claim(0, CREW, 0, 50001, NONE);
        x.claim(2, CREW, 0, 100001, 0);
        x.claim(2, CREW, 0, 100000000, NONE);
        Check.index("17 below 0", () -> x.broken(-1));
        Check.index("17 behind all", () -> x.broken(3));
        Check.equal("17 5000 times the tonnage", x.ofClaim(0, 5), 50000);
        Check.equal("17 of the other ship", x.ofClaim(1, 5), 100000);
        x.broken(0);
        Check.equal("17 broken", x.ofClaim(0, 5), 50001);
        Check.equal("17 not of the other claim", x.ofClaim(1, 5), 100000);
        Check.equal("17 the cost", x.ofEvent(0, 0), 150001);
        Check.state("17 broken again", () -> x.broken(0));
        x.broken(2);
        Check.equal("17 the highest", x.ofClaim(2, 5), 100000000);
        Check.equal("17 the limit holds", x.ofEvent(1, 0), 10000000);
        x.estimate(2, 60000000);
        Check.equal("17 broken stays", x.ofClaim(2, 5), 60000000);
        x.settle(1, false);
        Check.state("17 settled", () -> x.broken(1));
        Check.equal("17 nothing changed", x.ofClaim(1, 5), 100000);
    }

    private static void promise18OfClaim() {
        CallClub x = club();
        x.claim(0, CREW, 0, 5, NONE);
        x.claim(0, CREW, 0, 60000, NONE);
        x.letter(1, 44);
        Check.index("18 below 0", () -> x.ofClaim(-1, 0));
        Check.index("18 no claim, what wrong too", () -> x.ofClaim(2, 6));
        Check.argument("18 what below 0", () -> x.ofClaim(0, -1));
        Check.argument("18 what 6", () -> x.ofClaim(0, 6));
        Check.equal("18 loss", x.ofClaim(1, 0), 60000);
        Check.equal("18 event", x.ofClaim(1, 1), 1);
        Check.equal("18 covered", x.ofClaim(1, 2), 1);
        Check.equal("18 settled", x.ofClaim(1, 3), 0);
        Check.equal("18 letters", x.ofClaim(1, 4), 44);
        Check.equal("18 what counts", x.ofClaim(1, 5), 50000);
        x.settle(1, true);
        Check.equal("18 struck", x.ofClaim(1, 5), 0);
        Check.equal("18 letters stay", x.ofClaim(1, 4), 44);
        Check.equal("18 covered all the same", x.ofClaim(1, 2), 1);
    }

    private static void promise18Covered() {
        CallClub x = club();
        x.ship(0, 5);
        x.advance(0, 1000);
        x.pass(60);
        x.leave(2);
        x.pass(10);
        x.claim(0, CREW, 39, 10, NONE);
        x.claim(0, CREW, 40, 10, NONE);
        x.claim(0, CREW, 70, 10, NONE);
        x.claim(1, CREW, 70, 10, NONE);
        x.claim(2, CREW, 59, 10, NONE);
        x.claim(2, CREW, 60, 10, NONE);
        x.claim(3, CREW, 40, 10, NONE);
        covered(x, "18 entered or not", 1, 1, 1, 1, 1, 0, 0);
        x.stop(0, 40);
        covered(x, "18 stopped back to 40", 1, 0, 0, 1, 0, 0, 0);
        Check.equal("18 not covered counts 0", x.ofClaim(1, 5), 0);
        x.stop(0, 41);
        covered(x, "18 stopped back to 41", 1, 1, 0, 1, 0, 0, 0);
        x.stop(0, 0);
        covered(x, "18 stopped back to 0", 0, 0, 0, 1, 0, 0, 0);
        Check.equal("18 the cost", x.cost(0), 10);
    }

    private static void covered(CallClub x, String what, int... want) {
        for (int claim = 0; claim < want.length; claim++) {
            Check.equal(what, x.ofClaim(claim, 2), want[claim]);
            Check.equal(what + ", what counts", x.ofClaim(claim, 5), want[claim] * 10);
        }
    }

    private static void promise18CoveredOnTheDayOfLeaving() {
        CallClub x = club();
        x.pass(10);
        x.claim(0, CREW, 10, 10, NONE);
        Check.equal("18 entered today", x.ofClaim(0, 2), 1);
        x.leave(0);
        Check.equal("18 left today", x.ofClaim(0, 2), 0);
        x.enter(0);
        Check.equal("18 entered again today", x.ofClaim(0, 2), 1);
        x.pass(5);
        x.leave(0);
        Check.equal("18 left later", x.ofClaim(0, 2), 1);
    }

    private static void promise19OfEvent() {
        CallClub x = club();
        x.pool(0, 100, 1000, 50);
        x.pass(9);
        x.claim(0, CREW, 8, 5, NONE);
        x.claim(0, CREW, 9, 300, NONE);
        x.claim(1, CARGO, 9, 200, 1);
        Check.index("19 below 0", () -> x.ofEvent(-1, 0));
        Check.index("19 no event, what wrong too", () -> x.ofEvent(2, 4));
        Check.argument("19 what below 0", () -> x.ofEvent(0, -1));
        Check.argument("19 what 4", () -> x.ofEvent(0, 4));
        Check.equal("19 cost", x.ofEvent(1, 0), 500);
        Check.equal("19 what the club bears", x.ofEvent(1, 1), 300);
        Check.equal("19 day", x.ofEvent(1, 2), 9);
        Check.equal("19 claims", x.ofEvent(1, 3), 2);
        Check.equal("19 claims of the other", x.ofEvent(0, 3), 1);
        x.settle(1, true);
        Check.equal("19 struck claims are claims", x.ofEvent(1, 3), 2);
        Check.equal("19 struck claims cost nothing", x.ofEvent(1, 0), 200);
    }

    private static void promise19Groups() {
        CallClub x = club();
        x.rule(CREW, 0, 100, 1000);
        x.rule(POLLUTION, 0, 10, 60);
        x.claim(0, CREW, 0, 60, NONE);
        x.claim(1, CREW, 0, 160, 0);
        x.claim(0, POLLUTION, 0, 50, 0);
        x.claim(0, CREW, 0, 70, 0);
        Check.equal("19 one ship and kind together", x.ofEvent(0, 0), 130 - 100 + 160 - 100 + 50 - 10);
        x.claim(0, CREW, 0, 40, NONE);
        Check.equal("19 another event by itself", x.ofEvent(1, 0), 0);
        x.claim(2, CREW, 0, 700, 0);
        x.claim(0, POLLUTION, 0, 50, 0);
        Check.equal("19 sisters by themselves, a limit for both", x.ofEvent(0, 0), 30 + 60 + 50 + 600);
        x.claim(0, CREW, 0, 30000, 0);
        Check.equal("19 the limit for all three", x.ofEvent(0, 0), 900 + 60 + 50 + 600);
        x.estimate(7, 100000000);
        x.claim(0, CREW, 0, 100000000, 0);
        Check.equal("19 limitation by claims", x.ofClaim(8, 5), 50000);
        x.rule(CREW, 0, 0, 10000000);
        Check.equal("19 without a deductible", x.ofEvent(0, 0), 60 + 70 + 50000 + 50000 + 160 + 50 + 700);
    }

    private static void promise20Cost() {
        CallClub x = club();
        Check.argument("20 year below 0", () -> x.cost(-1));
        Check.argument("20 year 20", () -> x.cost(20));
        x.pass(200);
        x.claim(0, CREW, 99, 10, NONE);
        x.claim(0, CREW, 100, 200, NONE);
        x.claim(1, CREW, 199, 3000, NONE);
        x.claim(1, CREW, 200, 40000, NONE);
        Check.equal("20 the first year", x.cost(0), 10);
        Check.equal("20 its first and last day", x.cost(1), 3200);
        Check.equal("20 the next", x.cost(2), 40000);
        Check.equal("20 nothing", x.cost(19), 0);
        x.pool(1, 100, 1000, 10);
        Check.equal("20 what the club bears", x.cost(1), 110 + 100 + 90 + 2000);
        x.settle(0, false);
        x.close(0);
        Check.equal("20 closed", x.cost(0), 10);
    }
}
