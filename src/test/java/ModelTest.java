import java.util.List;
import java.util.function.Supplier;

/** Promises 1 to 34: long runs of mixed calls, right and wrong ones; each answer is that of the plain Model. */
public final class ModelTest {
    private static final int RUNS = 1500;
    // An object is used for 512 calls; a step makes up to 75, and the look at all up to 77.
    private static final int CALLS_OF_STEPS = 512 - 75 - 77;
    // In each so many runs it is looked at whether refused and asking calls leave the object as it was.
    private static final int WATCHED = 25;
    private static final List<String> ASKING = List.of("day", "weight", "weightAnew", "ofClaim", "ofEvent", "cost",
            "due", "owes", "result", "isClosed", "reserve", "isArrested");

    private final CallClub club = new CallClub();
    private final Model model = new Model();
    private final StringBuilder told = new StringBuilder();
    // A fixed row of numbers for each run, so that each run of this test asks the same.
    private long seed;
    private final boolean watched;
    private int calls;
    private boolean wrong;

    private ModelTest(long run) {
        seed = run * 0x9E3779B97F4A7C15L + 1;
        watched = run % WATCHED == 0;
    }

    public static void main(String[] args) {
        int faults = 0;
        for (int run = 0; run < RUNS && faults < 3; run++) {
            ModelTest test = new ModelTest(run);
            test.setUp();
            for (int i = 0; test.calls < CALLS_OF_STEPS && i < 1000; i++) {
                test.step();
            }
            test.lookAtAll();
            Check.equal("calls of one object", test.calls <= 512, true);
            if (test.wrong) {
                faults++;
                Check.tell("run " + run + ":\n" + test.told);
            }
        }
        Check.equal("runs with a fault", faults, 0);
        Check.end();
    }

    private int upTo(int bound) {
        seed = seed * 6364136223846793005L + 1442695040888963407L;
        return (int) ((seed >>> 33) % bound);
    }

    private boolean chance(int ofHundred) {
        return upTo(100) < ofHundred;
    }

    /** Mostly one of the numbers there are, at times one that is not. */
    private int number(int many) {
        return many == 0 || chance(2) ? upTo(many + 4) - 2 : upTo(many);
    }

    /** Mostly in the range, often on its ends, at times outside. */
    private int within(int least, int most) {
        int dice = upTo(100);
        if (dice < 2) {
            return least - 1;
        }
        if (dice < 4) {
            return most + 1;
        }
        if (dice < 8) {
            return least;
        }
        return dice < 11 ? most : least + upTo(Math.max(1, most - least + 1));
    }

    private int loss() {
        int[] most = {100, 3000, 200000, 100000000};
        return chance(5) ? within(0, 100000000) : upTo(most[upTo(4)] + 1);
    }

    private int year() {
        int today = model.today / 100;
        int dice = upTo(100);
        if (dice < 3) {
            return within(0, 19);
        }
        return dice < 60 ? today : Math.min(19, Math.max(0, today - 2 + upTo(4)));
    }

    private int aDay() {
        return chance(3) ? within(0, model.today) : Math.max(0, model.today - upTo(chance(70) ? 60 : 250));
    }

    private int members() {
        return model.members;
    }

    private int ships() {
        return model.ships.size();
    }

    private int claims() {
        return model.claims.size();
    }

    private void setUp() {
        int many = 1 + upTo(5);
        for (int i = 0; i < many; i++) {
            ask("member()", () -> "" + club.member(), model.member());
        }
        int fleet = 1 + upTo(9);
        for (int i = 0; i < fleet; i++) {
            tellShip();
        }
        for (int i = 0; i < fleet; i++) {
            enter(upTo(fleet));
        }
        for (int year = 0; year < 20; year++) {
            if (chance(60)) {
                advance(year, upTo(5000));
            }
        }
    }

    private void step() {
        int dice = upTo(100);
        if (dice < 12) {
            membersShipsDays(upTo(12));
        } else if (dice < 50) {
            rulesClaims(upTo(20));
        } else if (dice < 85) {
            callsClosing(upTo(20));
        } else {
            lettersArrests(upTo(5));
        }
    }

    private void membersShipsDays(int dice) {
        int ship = number(ships());
        switch (dice) {
            case 0 -> ask("member()", () -> "" + club.member(), model.member());
            case 1 -> tellShip();
            case 2, 3 -> enter(ship);
            case 4 -> ask("leave(" + ship + ")", () -> "" + club.leave(ship), model.leave(ship));
            case 5 -> leaveAll(number(members()));
            case 6, 7 -> rateAndWeigh();
            default -> passDays();
        }
    }

    private void tellShip() {
        int member = number(members());
        int tonnage = chance(50) ? within(1, 999) : 1 + upTo(40);
        ask("ship(" + member + ", " + tonnage + ")", () -> "" + club.ship(member, tonnage),
                model.ship(member, tonnage));
    }

    private void enter(int ship) {
        ask("enter(" + ship + ")", () -> {
            club.enter(ship);
            return "";
        }, model.enter(ship));
    }

    /** All ships of a member leave, so that it can be released. */
    private void leaveAll(int member) {
        for (int i = 0; i < ships(); i++) {
            int ship = i;
            if (model.ships.get(ship).member == member && model.ships.get(ship).since >= 0) {
                ask("leave(" + ship + ")", () -> "" + club.leave(ship), model.leave(ship));
            }
        }
        release(member);
    }

    private void passDays() {
        int days = chance(5) ? within(1, 200) : 1 + upTo(50);
        ask("pass(" + days + ")", () -> "" + club.pass(days), model.pass(days));
        ask("day()", () -> "" + club.day(), "" + model.today);
    }

    private void rateAndWeigh() {
        int member = number(members());
        int year = year();
        int hundredths = within(10, 500);
        ask("rate(" + member + ", " + year + ", " + hundredths + ")",
                () -> "" + club.rate(member, year, hundredths), model.rate(member, year, hundredths));
        ask("weight(" + member + ", " + year + ")", () -> "" + club.weight(member, year),
                model.weight(member, year));
        ask("weightAnew(" + member + ", " + year + ")", () -> "" + club.weightAnew(member, year),
                model.weight(member, year));
    }

    private void rulesClaims(int dice) {
        int claim = number(claims());
        switch (dice) {
            case 0, 1 -> tellRule();
            case 2 -> tellPool();
            case 3, 4, 5, 6 -> tellClaim();
            case 7, 8 -> collide();
            case 9, 10 -> {
                int loss = loss();
                ask("estimate(" + claim + ", " + loss + ")", () -> "" + club.estimate(claim, loss),
                        model.estimate(claim, loss));
            }
            case 11, 12 -> settle(claim, chance(25));
            case 13, 14 -> ask("broken(" + claim + ")", () -> {
                club.broken(claim);
                return "";
            }, model.broken(claim));
            case 15, 16 -> {
                int what = within(0, 5);
                ask("ofClaim(" + claim + ", " + what + ")", () -> "" + club.ofClaim(claim, what),
                        model.ofClaim(claim, what));
            }
            case 17, 18 -> {
                int event = number(model.events.size());
                int what = within(0, 3);
                ask("ofEvent(" + event + ", " + what + ")", () -> "" + club.ofEvent(event, what),
                        model.ofEvent(event, what));
            }
            default -> {
                int year = year();
                ask("cost(" + year + ")", () -> "" + club.cost(year), model.cost(year));
            }
        }
    }

    private void tellRule() {
        int kind = within(0, 3);
        int year = year();
        int deductible = chance(70) ? upTo(2000) : within(0, 1000000);
        int limit = chance(70) ? upTo(100000) : within(0, 10000000);
        ask("rule(" + kind + ", " + year + ", " + deductible + ", " + limit + ")", () -> {
            club.rule(kind, year, deductible, limit);
            return "";
        }, model.rule(kind, year, deductible, limit));
    }

    private void tellPool() {
        int year = year();
        int retention = chance(80) ? upTo(5000) : within(0, 10000000);
        int bound = chance(80) ? retention - 1 + upTo(100000) : within(retention, 100000000);
        int share = within(0, 100);
        ask("pool(" + year + ", " + retention + ", " + bound + ", " + share + ")", () -> {
            club.pool(year, retention, bound, share);
            return "";
        }, model.pool(year, retention, bound, share));
    }

    private void tellClaim() {
        // Claims are few in a run; they are told on all its length only if not at once.
        if (claims() > model.today / 25 + 8 && chance(85)) {
            return;
        }
        int ship = number(ships());
        int kind = within(0, 3);
        int event = chance(50) ? -1 : number(model.events.size());
        boolean fits = event >= 0 && event < model.events.size() && chance(95);
        int day = fits ? model.events.get(event) : aDay();
        int loss = loss();
        ask("claim(" + ship + ", " + kind + ", " + day + ", " + loss + ", " + event + ")",
                () -> "" + club.claim(ship, kind, day, loss, event), model.claim(ship, kind, day, loss, event));
    }

    private void collide() {
        if (claims() > model.today / 25 + 8 && chance(85)) {
            return;
        }
        int first = number(ships());
        int second = number(ships());
        int fault = within(0, 100);
        int loss = loss();
        int other = loss();
        ask("collide(" + first + ", " + second + ", " + fault + ", " + loss + ", " + other + ")",
                () -> "" + club.collide(first, second, fault, loss, other),
                model.collide(first, second, fault, loss, other));
    }

    private void settle(int claim, boolean strikes) {
        ask("settle(" + claim + ", " + strikes + ")", () -> {
            club.settle(claim, strikes);
            return "";
        }, model.settle(claim, strikes));
    }

    private void callsClosing(int dice) {
        int member = number(members());
        int year = year();
        switch (dice) {
            case 0 -> advance(year, chance(80) ? upTo(5000) : within(0, 1000000));
            case 1, 2 -> {
                int hundredths = within(1, 200);
                ask("further(" + year + ", " + hundredths + ")", () -> "" + club.further(year, hundredths),
                        model.further(year, hundredths));
            }
            case 3 -> release(member);
            case 4, 5 -> payAll(member);
            case 6, 7, 8 -> {
                int day = aDay();
                ask("stop(" + member + ", " + day + ")", () -> "" + club.stop(member, day),
                        model.stop(member, day));
            }
            case 9, 10 -> close(year);
            case 11, 12 -> closeNext();
            case 13, 14 -> ask("due(" + member + ", " + year + ")", () -> "" + club.due(member, year),
                    model.due(member, year));
            case 15, 16 -> ask("owes(" + member + ")", () -> "" + club.owes(member), model.owes(member));
            case 17 -> ask("result(" + year + ")", () -> "" + club.result(year), model.result(year));
            case 18 -> ask("isClosed(" + year + ")", () -> "" + club.isClosed(year), model.isClosed(year));
            default -> ask("reserve()", () -> "" + club.reserve(), "" + model.reserve);
        }
    }

    private void advance(int year, int cents) {
        ask("advance(" + year + ", " + cents + ")", () -> "" + club.advance(year, cents),
                model.advance(year, cents));
    }

    private void release(int member) {
        int hundredths = within(0, 200);
        ask("release(" + member + ", " + hundredths + ")", () -> "" + club.release(member, hundredths),
                model.release(member, hundredths));
    }

    /** At times to the cent, so that nothing is owed; at times one cent less. */
    private void payAll(int member) {
        int cents = within(1, 1000000000);
        if (member >= 0 && member < members() && chance(80)) {
            long owed = Long.parseLong(model.owes(member)) - (chance(50) ? 1 : 0);
            cents = owed > 0 && owed <= 1000000000 ? (int) owed : 1 + upTo(1000);
        }
        int paid = cents;
        ask("pay(" + member + ", " + paid + ")", () -> "" + club.pay(member, paid), model.pay(member, paid));
    }

    private void close(int year) {
        ask("close(" + year + ")", () -> "" + club.close(year), model.close(year));
    }

    /** Settles what keeps the next year open, and closes it. */
    private void closeNext() {
        int next = 0;
        while (next < 19 && model.closed[next]) {
            next++;
        }
        if (model.today / 100 <= next) {
            close(next);
            return;
        }
        for (int claim = 0; claim < claims(); claim++) {
            if (model.claims.get(claim).day / 100 == next && !model.claims.get(claim).settled) {
                settle(claim, chance(15));
            }
        }
        close(next);
        for (int i = 0; i < members(); i++) {
            int member = i;
            int year = next;
            ask("due(" + member + ", " + year + ")", () -> "" + club.due(member, year), model.due(member, year));
        }
    }

    private void lettersArrests(int dice) {
        int claim = number(claims());
        int ship = number(ships());
        switch (dice) {
            case 0, 1 -> letter(claim);
            case 2 -> ask("isArrested(" + ship + ")", () -> "" + club.isArrested(ship), model.isArrested(ship));
            default -> ask("arrest(" + ship + ", " + claim + ")", () -> "" + club.arrest(ship, claim),
                    model.arrest(ship, claim));
        }
    }

    private void letter(int claim) {
        int cents = within(1, 100000000);
        if (claim >= 0 && claim < claims() && chance(90)) {
            Model.Claim c = model.claims.get(claim);
            long left = c.loss - c.letters;
            cents = left > 0 && chance(80) ? (int) left : 1 + upTo(500);
        }
        int given = cents;
        ask("letter(" + claim + ", " + given + ")", () -> "" + club.letter(claim, given),
                model.letter(claim, given));
    }

    private void lookAtAll() {
        for (int i = 0; i < 20; i++) {
            int year = i;
            ask("cost(" + year + ")", () -> "" + club.cost(year), model.cost(year));
            ask("result(" + year + ")", () -> "" + club.result(year), model.result(year));
        }
        for (int i = 0; i < members(); i++) {
            int member = i;
            ask("owes(" + member + ")", () -> "" + club.owes(member), model.owes(member));
        }
        for (int i = 0; i < ships(); i++) {
            int ship = i;
            ask("isArrested(" + ship + ")", () -> "" + club.isArrested(ship), model.isArrested(ship));
        }
        ask("reserve()", () -> "" + club.reserve(), "" + model.reserve);
    }

    private void ask(String call, Supplier<String> asked, String want) {
        calls++;
        if (wrong) {
            return;
        }
        String before = watched ? Picture.of(club) : "";
        boolean changes = !ASKING.contains(call.substring(0, call.indexOf('(')));
        String got;
        try {
            got = asked.get();
        } catch (RuntimeException e) {
            got = e.getClass().getSimpleName();
            changes = false;
        }
        told.append("  ").append(call).append(" -> ").append(got).append('\n');
        if (watched && !changes && !before.equals(Picture.of(club))) {
            wrong = true;
            told.append("  the object is changed\n");
        }
        if (!got.equals(want)) {
            wrong = true;
            told.append("  due is ").append(want).append('\n');
        }
    }
}
