import java.util.ArrayList;
import java.util.List;
import java.util.TreeMap;

/**
 * The document told a second time, as plainly as can be and without any regard to cost: a grid of days instead of
 * entries, lists instead of counters, nothing kept that can be found anew. Each call answers a text: the answer, or
 * the name of the exception that is due.
 */
final class Model {
    static final String INDEX = "IndexOutOfBoundsException";
    static final String ARGUMENT = "IllegalArgumentException";
    static final String STATE = "IllegalStateException";

    static final class Ship {
        int member;
        int tonnage;
        int since = -1;
        final boolean[] on = new boolean[2000];
        final List<Claim> arrests = new ArrayList<>();
    }

    static final class Claim {
        int ship;
        int kind;
        int day;
        int event;
        long loss;
        long letters;
        boolean settled;
        boolean broken;
        /** Whether it was covered when its year was closed; null while that is open. */
        Boolean frozen;
    }

    static final class Pool {
        long retention;
        long bound;
        long share;
    }

    int today;
    int entries;
    int members;
    long reserve;
    final List<Ship> ships = new ArrayList<>();
    final List<Claim> claims = new ArrayList<>();
    final List<Integer> events = new ArrayList<>();
    final long[] paid = new long[12];
    final Integer[] stops = new Integer[12];
    final Integer[][] ratings = new Integer[12][20];
    final Long[][] lasting = new Long[12][20];
    final boolean[][] released = new boolean[12][20];
    final List<TreeMap<Integer, long[]>> rules = new ArrayList<>();
    final Pool[] pools = new Pool[20];
    final long[] advances = new long[20];
    final long[] furthers = new long[20];
    final boolean[] closed = new boolean[20];

    Model() {
        for (int kind = 0; kind < 4; kind++) {
            rules.add(new TreeMap<>());
        }
    }

    private static boolean within(long value, long least, long most) {
        return least <= value && value <= most;
    }

    private static boolean isYear(int year) {
        return within(year, 0, 19);
    }

    private boolean isMember(int member) {
        return within(member, 0, members - 1);
    }

    private boolean isShip(int ship) {
        return within(ship, 0, ships.size() - 1);
    }

    private boolean isClaim(int claim) {
        return within(claim, 0, claims.size() - 1);
    }

    private boolean isEvent(int event) {
        return within(event, 0, events.size() - 1);
    }

    private static String answer(long value) {
        return Long.toString(value);
    }

    String member() {
        return members == 12 ? STATE : answer(members++);
    }

    String ship(int member, int tonnage) {
        if (!isMember(member)) {
            return INDEX;
        }
        if (!within(tonnage, 1, 999)) {
            return ARGUMENT;
        }
        if (ships.size() == 24) {
            return STATE;
        }
        Ship s = new Ship();
        s.member = member;
        s.tonnage = tonnage;
        ships.add(s);
        return answer(ships.size() - 1);
    }

    String enter(int ship) {
        if (!isShip(ship)) {
            return INDEX;
        }
        Ship s = ships.get(ship);
        if (s.since >= 0 || released[s.member][today / 100] || entries == 60) {
            return STATE;
        }
        entries++;
        s.since = today;
        for (int day = today; day < 2000; day++) {
            s.on[day] = true;
        }
        return "";
    }

    String leave(int ship) {
        if (!isShip(ship)) {
            return INDEX;
        }
        Ship s = ships.get(ship);
        if (s.since < 0) {
            return STATE;
        }
        int days = today - s.since;
        s.since = -1;
        for (int day = today; day < 2000; day++) {
            s.on[day] = false;
        }
        return answer(days);
    }

    String pass(int days) {
        if (!within(days, 1, 200)) {
            return ARGUMENT;
        }
        if (today + days > 1999) {
            return STATE;
        }
        today += days;
        return answer(today);
    }

    String rate(int member, int year, int hundredths) {
        if (!isMember(member)) {
            return INDEX;
        }
        if (!isYear(year) || !within(hundredths, 10, 500)) {
            return ARGUMENT;
        }
        if (closed[year] || released[member][year]) {
            return STATE;
        }
        long before = rating(member, year);
        ratings[member][year] = hundredths;
        return answer(before);
    }

    private long rating(int member, int year) {
        return ratings[member][year] == null ? 100 : ratings[member][year];
    }

    String weight(int member, int year) {
        if (!isMember(member)) {
            return INDEX;
        }
        return isYear(year) ? answer(weightOf(member, year)) : ARGUMENT;
    }

    private long weightOf(int member, int year) {
        long sum = 0;
        for (Ship s : ships) {
            for (int day = year * 100; s.member == member && day < year * 100 + 100; day++) {
                sum += s.on[day] ? s.tonnage : 0;
            }
        }
        return sum * rating(member, year) / 100;
    }

    String rule(int kind, int year, int deductible, int limit) {
        if (!within(kind, 0, 3) || !isYear(year) || !within(deductible, 0, 1000000) || !within(limit, 0, 10000000)) {
            return ARGUMENT;
        }
        if (closed[year]) {
            return STATE;
        }
        rules.get(kind).put(year, new long[] {deductible, limit});
        return "";
    }

    String pool(int year, int retention, int bound, int share) {
        if (!isYear(year) || !within(retention, 0, 10000000) || !within(bound, retention, 100000000)
                || !within(share, 0, 100)) {
            return ARGUMENT;
        }
        if (closed[year]) {
            return STATE;
        }
        pools[year] = new Pool();
        pools[year].retention = retention;
        pools[year].bound = bound;
        pools[year].share = share;
        return "";
    }

    String claim(int ship, int kind, int day, int loss, int event) {
        if (!isShip(ship) || event != -1 && !isEvent(event)) {
            return INDEX;
        }
        if (!within(kind, 0, 3) || !within(day, 0, today) || !within(loss, 0, 100000000)
                || event != -1 && events.get(event) != day) {
            return ARGUMENT;
        }
        if (closed[day / 100] || claims.size() == 60) {
            return STATE;
        }
        int of = event;
        if (event == -1) {
            events.add(day);
            of = events.size() - 1;
        }
        add(ship, kind, day, loss, of);
        return answer(claims.size() - 1);
    }

    private void add(int ship, int kind, int day, long loss, int event) {
        Claim c = new Claim();
        c.ship = ship;
        c.kind = kind;
        c.day = day;
        c.loss = loss;
        c.event = event;
        claims.add(c);
    }

    String collide(int first, int second, int fault, int loss, int other) {
        if (!isShip(first) || !isShip(second)) {
            return INDEX;
        }
        if (first == second || !within(fault, 0, 100) || !within(loss, 0, 100000000)
                || !within(other, 0, 100000000)) {
            return ARGUMENT;
        }
        if (claims.size() > 58) {
            return STATE;
        }
        events.add(today);
        add(first, 2, today, fault * (long) other / 100, events.size() - 1);
        add(second, 2, today, (100 - fault) * (long) loss / 100, events.size() - 1);
        return answer(claims.size() - 2);
    }

    String estimate(int claim, int loss) {
        if (!isClaim(claim)) {
            return INDEX;
        }
        if (!within(loss, 0, 100000000)) {
            return ARGUMENT;
        }
        Claim c = claims.get(claim);
        if (c.settled) {
            return STATE;
        }
        long before = c.loss;
        c.loss = loss;
        return answer(before);
    }

    String settle(int claim, boolean strikes) {
        if (!isClaim(claim)) {
            return INDEX;
        }
        Claim c = claims.get(claim);
        if (c.settled) {
            return STATE;
        }
        c.settled = true;
        c.loss = strikes ? 0 : c.loss;
        return "";
    }

    String broken(int claim) {
        if (!isClaim(claim)) {
            return INDEX;
        }
        Claim c = claims.get(claim);
        if (c.settled || c.broken) {
            return STATE;
        }
        c.broken = true;
        return "";
    }

    private boolean covered(Claim c) {
        if (c.frozen != null) {
            return c.frozen;
        }
        Ship s = ships.get(c.ship);
        return s.on[c.day] && (stops[s.member] == null || c.day < stops[s.member]);
    }

    private long counts(Claim c) {
        if (!covered(c)) {
            return 0;
        }
        return c.broken ? c.loss : Math.min(c.loss, 5000L * ships.get(c.ship).tonnage);
    }

    private long costOfEvent(int event) {
        long cost = 0;
        for (int ship = 0; ship < ships.size(); ship++) {
            for (int kind = 0; kind < 4; kind++) {
                long together = 0;
                for (Claim c : claims) {
                    together += c.event == event && c.ship == ship && c.kind == kind ? counts(c) : 0;
                }
                var rule = rules.get(kind).floorEntry(events.get(event) / 100);
                long deductible = rule == null ? 0 : rule.getValue()[0];
                long limit = rule == null ? 10000000 : rule.getValue()[1];
                cost += Math.max(0, Math.min(together, limit) - deductible);
            }
        }
        return cost;
    }

    private long bornOfEvent(int event) {
        long cost = costOfEvent(event);
        Pool p = pools[events.get(event) / 100];
        if (p == null) {
            return cost;
        }
        long retained = Math.min(cost, p.retention);
        long layer = Math.max(0, Math.min(cost, p.bound) - p.retention);
        long above = Math.max(0, cost - p.bound);
        return retained + layer * p.share / 100 + above;
    }

    private long costOfYear(int year) {
        long cost = 0;
        for (int event = 0; event < events.size(); event++) {
            cost += events.get(event) / 100 == year ? bornOfEvent(event) : 0;
        }
        return cost;
    }

    String ofClaim(int claim, int what) {
        if (!isClaim(claim)) {
            return INDEX;
        }
        if (!within(what, 0, 5)) {
            return ARGUMENT;
        }
        Claim c = claims.get(claim);
        long[] told = {c.loss, c.event, covered(c) ? 1 : 0, c.settled ? 1 : 0, c.letters, counts(c)};
        return answer(told[what]);
    }

    String ofEvent(int event, int what) {
        if (!isEvent(event)) {
            return INDEX;
        }
        if (!within(what, 0, 3)) {
            return ARGUMENT;
        }
        long many = claims.stream().filter(c -> c.event == event).count();
        long[] told = {costOfEvent(event), bornOfEvent(event), events.get(event), many};
        return answer(told[what]);
    }

    String cost(int year) {
        return isYear(year) ? answer(costOfYear(year)) : ARGUMENT;
    }

    String advance(int year, int cents) {
        if (!isYear(year) || !within(cents, 0, 1000000)) {
            return ARGUMENT;
        }
        boolean gone = false;
        for (int member = 0; member < 12; member++) {
            gone |= released[member][year];
        }
        if (closed[year] || gone) {
            return STATE;
        }
        long before = advances[year];
        advances[year] = cents;
        return answer(before);
    }

    String further(int year, int hundredths) {
        if (!isYear(year) || !within(hundredths, 1, 200)) {
            return ARGUMENT;
        }
        if (closed[year] || furthers[year] + hundredths > 1000) {
            return STATE;
        }
        furthers[year] += hundredths;
        return answer(furthers[year]);
    }

    private long dueOf(int member, int year) {
        if (lasting[member][year] != null) {
            return lasting[member][year];
        }
        if (closed[year]) {
            return 0;
        }
        long advance = weightOf(member, year) * advances[year] / 1000;
        return advance + advance * furthers[year] / 100;
    }

    private long owedBy(int member) {
        long owed = 0;
        for (int year = 0; year < 20; year++) {
            owed += dueOf(member, year);
        }
        return owed - paid[member];
    }

    String release(int member, int hundredths) {
        if (!isMember(member)) {
            return INDEX;
        }
        if (!within(hundredths, 0, 200)) {
            return ARGUMENT;
        }
        for (Ship s : ships) {
            if (s.member == member && s.since >= 0) {
                return STATE;
            }
        }
        List<Integer> of = new ArrayList<>();
        for (int year = 0; year < 20; year++) {
            if (!closed[year] && !released[member][year] && weightOf(member, year) > 0) {
                of.add(year);
            }
        }
        if (of.isEmpty()) {
            return STATE;
        }
        for (int year : of) {
            long advance = weightOf(member, year) * advances[year] / 1000;
            lasting[member][year] = dueOf(member, year) + advance * hundredths / 100;
            released[member][year] = true;
        }
        return answer(of.size());
    }

    String pay(int member, int cents) {
        if (!isMember(member)) {
            return INDEX;
        }
        if (!within(cents, 1, 1000000000)) {
            return ARGUMENT;
        }
        paid[member] += cents;
        if (owedBy(member) <= 0) {
            stops[member] = null;
        }
        return answer(owedBy(member));
    }

    String stop(int member, int day) {
        if (!isMember(member)) {
            return INDEX;
        }
        if (!within(day, 0, today)) {
            return ARGUMENT;
        }
        if (owedBy(member) <= 0) {
            return STATE;
        }
        Integer before = stops[member];
        stops[member] = day;
        return answer(before == null ? -1 : before);
    }

    private boolean closable(int year) {
        boolean can = !closed[year] && today / 100 > year;
        for (int ahead = 0; ahead < year; ahead++) {
            can &= closed[ahead];
        }
        for (Claim c : claims) {
            can &= c.day / 100 != year || c.settled;
        }
        return can;
    }

    String close(int year) {
        if (!isYear(year)) {
            return ARGUMENT;
        }
        if (!closable(year)) {
            return STATE;
        }
        long cost = costOfYear(year);
        long rest = cost;
        long weights = 0;
        List<Integer> others = new ArrayList<>();
        for (int member = 0; member < members; member++) {
            if (released[member][year]) {
                rest -= lasting[member][year];
            } else if (weightOf(member, year) > 0) {
                others.add(member);
                weights += weightOf(member, year);
            }
        }
        long left = rest;
        for (int member : others) {
            lasting[member][year] = Math.floorDiv(Math.multiplyExact(rest, weightOf(member, year)), weights);
            left -= lasting[member][year];
        }
        for (int member : others) {
            lasting[member][year] += left > 0 ? 1 : 0;
            left -= left > 0 ? 1 : 0;
        }
        reserve -= left;
        for (Claim c : claims) {
            if (c.day / 100 == year) {
                c.frozen = covered(c);
            }
        }
        closed[year] = true;
        return answer(cost);
    }

    String due(int member, int year) {
        if (!isMember(member)) {
            return INDEX;
        }
        return isYear(year) ? answer(dueOf(member, year)) : ARGUMENT;
    }

    String owes(int member) {
        return isMember(member) ? answer(owedBy(member)) : INDEX;
    }

    String result(int year) {
        if (!isYear(year)) {
            return ARGUMENT;
        }
        long all = -costOfYear(year);
        for (int member = 0; member < members; member++) {
            all += dueOf(member, year);
        }
        return answer(all);
    }

    String isClosed(int year) {
        return isYear(year) ? Boolean.toString(closed[year]) : ARGUMENT;
    }

    String letter(int claim, int cents) {
        if (!isClaim(claim)) {
            return INDEX;
        }
        if (!within(cents, 1, 100000000)) {
            return ARGUMENT;
        }
        Claim c = claims.get(claim);
        if (c.settled || c.letters + cents > c.loss) {
            return STATE;
        }
        c.letters += cents;
        return answer(c.letters);
    }

    private static boolean holds(Claim c) {
        return !c.settled && c.letters < c.loss;
    }

    String arrest(int ship, int claim) {
        if (!isShip(ship) || !isClaim(claim)) {
            return INDEX;
        }
        Claim c = claims.get(claim);
        Ship s = ships.get(ship);
        if (s.member != ships.get(c.ship).member || !holds(c)) {
            return STATE;
        }
        boolean free = s.arrests.stream().noneMatch(Model::holds);
        s.arrests.add(c);
        return Boolean.toString(free);
    }

    String isArrested(int ship) {
        return isShip(ship) ? Boolean.toString(ships.get(ship).arrests.stream().anyMatch(Model::holds)) : INDEX;
    }
}
