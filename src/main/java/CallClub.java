import java.util.Arrays;

/** A club of shipowners who insure one another. The document's promises say what each call does. */
public final class CallClub {
    public static final int NONE = -1;
    public static final int CREW = 0, CARGO = 1, COLLISION = 2, POLLUTION = 3;

    private static final int YEARS = 20;
    private static final int DAYS_OF_YEAR = 100;
    private static final int DAYS = YEARS * DAYS_OF_YEAR;
    private static final int KINDS = 4;
    private static final int MOST_MEMBERS = 12;
    private static final int MOST_SHIPS = 24;
    private static final int MOST_ENTRIES = 60;
    private static final int MOST_CLAIMS = 60;
    private static final int MOST_FURTHER = 1000;
    private static final int MOST_LOSS = 100000000;
    private static final int LIMITATION_PER_TON = 5000;
    private static final int LIMIT_WITHOUT_RULE = 10000000;

    private final Member[] members = new Member[MOST_MEMBERS];
    private final Ship[] ships = new Ship[MOST_SHIPS];
    private final Entry[] entries = new Entry[MOST_ENTRIES];
    private final Claim[] claims = new Claim[MOST_CLAIMS];
    // Each event has a claim at least, so there are never more events than claims.
    private final Event[] events = new Event[MOST_CLAIMS];
    private final Year[] years = new Year[YEARS];
    private final Rules rules = new Rules();
    private int memberCount;
    private int shipCount;
    private int entryCount;
    private int claimCount;
    private int eventCount;
    private int today;
    private long reserve;

    public CallClub() {
        for (int year = 0; year < YEARS; year++) {
            years[year] = new Year();
        }
    }

    // ---- members, ships, days

    public int member() throws IllegalStateException {
        if (memberCount >= MOST_MEMBERS) {
            throw new IllegalStateException("there are 12 members");
        }
        members[memberCount] = new Member();
        memberCount++;
        return memberCount - 1;
    }

    public int ship(int member, int tonnage)
            throws IndexOutOfBoundsException, IllegalArgumentException, IllegalStateException {
        Member owner = memberOf(member);
        checkRange(tonnage, 1, 999);
        if (shipCount >= MOST_SHIPS) {
            throw new IllegalStateException("there are 24 ships");
        }
        ships[shipCount] = new Ship(owner, tonnage);
        shipCount++;
        return shipCount - 1;
    }

    public void enter(int ship) throws IndexOutOfBoundsException, IllegalStateException {
        Ship entering = shipOf(ship);
        if (entering.current != null) {
            throw new IllegalStateException("the ship is entered");
        }
        if (entering.owner.released[yearOfDay(today)]) {
            throw new IllegalStateException("the member was released for this year");
        }
        if (entryCount >= MOST_ENTRIES) {
            throw new IllegalStateException("60 entries were told");
        }
        Entry entry = new Entry(entering, today);
        entries[entryCount] = entry;
        entryCount++;
        entering.current = entry;
    }

    public int leave(int ship) throws IndexOutOfBoundsException, IllegalStateException {
        Ship leaving = shipOf(ship);
        Entry entry = leaving.current;
        if (entry == null) {
            throw new IllegalStateException("the ship is not entered");
        }
        entry.until = today;
        leaving.current = null;
        return today - entry.from;
    }

    public int pass(int days) throws IllegalArgumentException, IllegalStateException {
        checkRange(days, 1, 200);
        if (today + days >= DAYS) {
            throw new IllegalStateException("the day would be above 1999");
        }
        today += days;
        return today;
    }

    public int day() {
        return today;
    }

    public int rate(int member, int year, int hundredths)
            throws IndexOutOfBoundsException, IllegalArgumentException, IllegalStateException {
        Member rated = memberOf(member);
        checkYear(year);
        checkRange(hundredths, 10, 500);
        checkOpen(year);
        if (rated.released[year]) {
            throw new IllegalStateException("the member was released in the year");
        }
        int before = rated.ratings[year];
        rated.ratings[year] = hundredths;
        return before;
    }

    public long weight(int member, int year) throws IndexOutOfBoundsException, IllegalArgumentException {
        Member weighed = memberOf(member);
        checkYear(year);
        return weightIn(weighed, year);
    }

    public long weightAnew(int member, int year) throws IndexOutOfBoundsException, IllegalArgumentException {
        Member weighed = memberOf(member);
        checkYear(year);
        long tonDays = 0;
        int behind = (year + 1) * DAYS_OF_YEAR;
        for (int day = year * DAYS_OF_YEAR; day < behind; day++) {
            tonDays += tonsOn(weighed, day);
        }
        return weighed.rated(tonDays, year);
    }

    // ---- rules, claims

    public void rule(int kind, int year, int deductible, int limit)
            throws IllegalArgumentException, IllegalStateException {
        checkKind(kind);
        checkYear(year);
        checkRange(deductible, 0, 1000000);
        checkRange(limit, 0, 10000000);
        checkOpen(year);
        rules.tell(kind, year, deductible, limit);
    }

    public void pool(int year, int retention, int bound, int share)
            throws IllegalArgumentException, IllegalStateException {
        checkYear(year);
        checkRange(retention, 0, 10000000);
        checkRange(bound, retention, 100000000);
        checkRange(share, 0, 100);
        checkOpen(year);
        years[year].tellPool(retention, bound, share);
    }

    public int claim(int ship, int kind, int day, int loss, int event)
            throws IndexOutOfBoundsException, IllegalArgumentException, IllegalStateException {
        Ship claiming = shipOf(ship);
        Event of = event == NONE ? null : eventOf(event);
        checkKind(kind);
        checkRange(day, 0, today);
        checkLoss(loss);
        if (of != null && of.day != day) {
            throw new IllegalArgumentException("the day is not that of the event");
        }
        checkOpen(yearOfDay(day));
        checkRoomForClaims(1);
        if (of == null) {
            of = newEvent(day);
        }
        return newClaim(claiming, kind, loss, of);
    }

    public int collide(int first, int second, int fault, int loss, int other)
            throws IndexOutOfBoundsException, IllegalArgumentException, IllegalStateException {
        Ship firstShip = shipOf(first);
        Ship secondShip = shipOf(second);
        if (first == second) {
            throw new IllegalArgumentException("a ship collides with itself");
        }
        checkRange(fault, 0, 100);
        checkLoss(loss);
        checkLoss(other);
        checkRoomForClaims(2);
        Event collision = newEvent(today);
        int claim = newClaim(firstShip, COLLISION, hundredthsOf(other, fault), collision);
        newClaim(secondShip, COLLISION, hundredthsOf(loss, 100 - fault), collision);
        return claim;
    }

    public int estimate(int claim, int loss)
            throws IndexOutOfBoundsException, IllegalArgumentException, IllegalStateException {
        Claim estimated = claimOf(claim);
        checkLoss(loss);
        checkUnsettled(estimated);
        int before = estimated.loss;
        estimated.loss = loss;
        return before;
    }

    public void settle(int claim, boolean strikes) throws IndexOutOfBoundsException, IllegalStateException {
        Claim ending = claimOf(claim);
        checkUnsettled(ending);
        ending.settled = true;
        if (strikes) {
            ending.loss = 0;
        }
    }

    public void broken(int claim) throws IndexOutOfBoundsException, IllegalStateException {
        Claim unlimited = claimOf(claim);
        checkUnsettled(unlimited);
        if (unlimited.unlimited) {
            throw new IllegalStateException("the limitation of the claim is broken");
        }
        unlimited.unlimited = true;
    }

    public long ofClaim(int claim, int what) throws IndexOutOfBoundsException, IllegalArgumentException {
        Claim asked = claimOf(claim);
        checkRange(what, 0, 5);
        switch (what) {
            case 0:
                return asked.loss;
            case 1:
                return asked.event.number;
            case 2:
                return isCovered(asked) ? 1 : 0;
            case 3:
                return asked.settled ? 1 : 0;
            case 4:
                return asked.letters;
            default:
                return isCovered(asked) ? asked.limitedLoss() : 0;
        }
    }

    public long ofEvent(int event, int what) throws IndexOutOfBoundsException, IllegalArgumentException {
        Event asked = eventOf(event);
        checkRange(what, 0, 3);
        switch (what) {
            case 0:
                return costOf(asked);
            case 1:
                return borneOf(asked);
            case 2:
                return asked.day;
            default:
                return asked.claimCount;
        }
    }

    public long cost(int year) throws IllegalArgumentException {
        checkYear(year);
        return costIn(year);
    }

    // ---- calls, payments, closing

    public int advance(int year, int cents) throws IllegalArgumentException, IllegalStateException {
        checkYear(year);
        checkRange(cents, 0, 1000000);
        checkOpen(year);
        for (int i = 0; i < memberCount; i++) {
            if (members[i].released[year]) {
                throw new IllegalStateException("someone was released in the year");
            }
        }
        int before = years[year].advance;
        years[year].advance = cents;
        return before;
    }

    public int further(int year, int hundredths) throws IllegalArgumentException, IllegalStateException {
        checkYear(year);
        checkRange(hundredths, 1, 200);
        checkOpen(year);
        int together = years[year].further + hundredths;
        if (together > MOST_FURTHER) {
            throw new IllegalStateException("all further hundredths would be above 1000");
        }
        years[year].further = together;
        return together;
    }

    public int release(int member, int hundredths)
            throws IndexOutOfBoundsException, IllegalArgumentException, IllegalStateException {
        Member going = memberOf(member);
        checkRange(hundredths, 0, 200);
        if (hasShipEntered(going)) {
            throw new IllegalStateException("the member has a ship entered");
        }
        int count = 0;
        for (int year = 0; year < YEARS; year++) {
            if (isShared(going, year) && !years[year].closed) {
                releaseFrom(going, year, hundredths);
                count++;
            }
        }
        if (count == 0) {
            throw new IllegalStateException("there is no open year to release the member of");
        }
        return count;
    }

    public long pay(int member, int cents) throws IndexOutOfBoundsException, IllegalArgumentException {
        Member paying = memberOf(member);
        checkRange(cents, 1, 1000000000);
        paying.paid += cents;
        long left = owedBy(paying);
        if (left <= 0) {
            paying.stopDay = NONE;
        }
        return left;
    }

    public int stop(int member, int day)
            throws IndexOutOfBoundsException, IllegalArgumentException, IllegalStateException {
        Member stopped = memberOf(member);
        checkRange(day, 0, today);
        if (owedBy(stopped) <= 0) {
            throw new IllegalStateException("the member owes nothing");
        }
        int before = stopped.stopDay;
        stopped.stopDay = day;
        return before;
    }

    public long close(int year) throws IllegalArgumentException, IllegalStateException {
        checkYear(year);
        checkClosable(year);
        long cost = costIn(year);
        share(year, cost - dueOfReleased(year));
        // A later stop, or one that goes, must not reach the claims of this year any more.
        for (int i = 0; i < claimCount; i++) {
            if (yearOfDay(claims[i].event.day) == year) {
                claims[i].coveredAtClose = isCovered(claims[i]);
            }
        }
        years[year].closed = true;
        return cost;
    }

    public long due(int member, int year) throws IndexOutOfBoundsException, IllegalArgumentException {
        Member owing = memberOf(member);
        checkYear(year);
        return dueOf(owing, year);
    }

    public long owes(int member) throws IndexOutOfBoundsException {
        return owedBy(memberOf(member));
    }

    public long result(int year) throws IllegalArgumentException {
        checkYear(year);
        long all = 0;
        for (int i = 0; i < memberCount; i++) {
            all += dueOf(members[i], year);
        }
        return all - costIn(year);
    }

    public boolean isClosed(int year) throws IllegalArgumentException {
        checkYear(year);
        return years[year].closed;
    }

    public long reserve() {
        return reserve;
    }

    // ---- letters, arrests

    public int letter(int claim, int cents)
            throws IndexOutOfBoundsException, IllegalArgumentException, IllegalStateException {
        Claim secured = claimOf(claim);
        checkRange(cents, 1, 100000000);
        checkUnsettled(secured);
        int together = secured.letters + cents;
        if (together > secured.loss) {
            throw new IllegalStateException("the letters would be more than the loss");
        }
        secured.letters = together;
        return together;
    }

    public boolean arrest(int ship, int claim) throws IndexOutOfBoundsException, IllegalStateException {
        Ship arrested = shipOf(ship);
        Claim cause = claimOf(claim);
        if (arrested.owner != cause.ship.owner) {
            throw new IllegalStateException("the ship is no sister");
        }
        if (!cause.holdsShips()) {
            throw new IllegalStateException("the claim is settled, or its letters are not less than its loss");
        }
        boolean free = !isHeld(arrested);
        arrested.arrests |= 1L << claim;
        return free;
    }

    public boolean isArrested(int ship) throws IndexOutOfBoundsException {
        return isHeld(shipOf(ship));
    }

    // ---- looking at arguments

    private Member memberOf(int number) {
        if (number < 0 || number >= memberCount) {
            throw new IndexOutOfBoundsException("there is no such member");
        }
        return members[number];
    }

    private Ship shipOf(int number) {
        if (number < 0 || number >= shipCount) {
            throw new IndexOutOfBoundsException("there is no such ship");
        }
        return ships[number];
    }

    private Claim claimOf(int number) {
        if (number < 0 || number >= claimCount) {
            throw new IndexOutOfBoundsException("there is no such claim");
        }
        return claims[number];
    }

    private Event eventOf(int number) {
        if (number < 0 || number >= eventCount) {
            throw new IndexOutOfBoundsException("there is no such event");
        }
        return events[number];
    }

    private static void checkRange(int value, int least, int most) {
        if (value < least || value > most) {
            throw new IllegalArgumentException("an argument is out of its range");
        }
    }

    private static void checkYear(int year) {
        checkRange(year, 0, YEARS - 1);
    }

    private static void checkKind(int kind) {
        checkRange(kind, CREW, POLLUTION);
    }

    private static void checkLoss(int loss) {
        checkRange(loss, 0, MOST_LOSS);
    }

    private void checkOpen(int year) {
        if (years[year].closed) {
            throw new IllegalStateException("the year is closed");
        }
    }

    private static void checkUnsettled(Claim claim) {
        if (claim.settled) {
            throw new IllegalStateException("the claim is settled");
        }
    }

    private void checkRoomForClaims(int more) {
        if (claimCount + more > MOST_CLAIMS) {
            throw new IllegalStateException("there are too many claims");
        }
    }

    private void checkClosable(int year) {
        checkOpen(year);
        if (today < (year + 1) * DAYS_OF_YEAR) {
            throw new IllegalStateException("the year is not over");
        }
        if (year > 0 && !years[year - 1].closed) {
            throw new IllegalStateException("a year ahead of it is not closed");
        }
        for (int i = 0; i < claimCount; i++) {
            if (yearOfDay(claims[i].event.day) == year && !claims[i].settled) {
                throw new IllegalStateException("a claim of the year is not settled");
            }
        }
    }

    // ---- weights

    private static int yearOfDay(int day) {
        return day / DAYS_OF_YEAR;
    }

    private long weightIn(Member member, int year) {
        long tonDays = 0;
        for (int i = 0; i < entryCount; i++) {
            Entry entry = entries[i];
            if (entry.ship.owner == member) {
                tonDays += (long) entry.ship.tonnage * entry.daysIn(year);
            }
        }
        return member.rated(tonDays, year);
    }

    private long tonsOn(Member member, int day) {
        long tons = 0;
        for (int i = 0; i < entryCount; i++) {
            Entry entry = entries[i];
            if (entry.ship.owner == member && entry.isOn(day)) {
                tons += entry.ship.tonnage;
            }
        }
        return tons;
    }

    private boolean hasShipEntered(Member member) {
        for (int i = 0; i < shipCount; i++) {
            if (ships[i].owner == member && ships[i].current != null) {
                return true;
            }
        }
        return false;
    }

    private boolean wasEntered(Ship ship, int day) {
        for (int i = 0; i < entryCount; i++) {
            if (entries[i].ship == ship && entries[i].isOn(day)) {
                return true;
            }
        }
        return false;
    }

    // ---- claims and their costs

    private Event newEvent(int day) {
        Event event = new Event(eventCount, day);
        events[eventCount] = event;
        eventCount++;
        return event;
    }

    private int newClaim(Ship ship, int kind, int loss, Event event) {
        claims[claimCount] = new Claim(ship, kind, loss, event);
        claimCount++;
        event.claimCount++;
        return claimCount - 1;
    }

    private static int hundredthsOf(int loss, int hundredths) {
        return (int) ((long) loss * hundredths / 100);
    }

    private boolean isCovered(Claim claim) {
        int day = claim.event.day;
        if (years[yearOfDay(day)].closed) {
            return claim.coveredAtClose;
        }
        return !claim.ship.owner.isStoppedOn(day) && wasEntered(claim.ship, day);
    }

    private long costOf(Event event) {
        int year = yearOfDay(event.day);
        long cost = 0;
        for (int i = 0; i < claimCount; i++) {
            Claim claim = claims[i];
            // A group is of one ship and one day, so that all its claims are covered, or none.
            if (claim.event == event && isFirstOfItsGroup(i) && isCovered(claim)) {
                cost += rules.applied(claim.kind, year, lossesOfGroup(i));
            }
        }
        return cost;
    }

    private boolean isFirstOfItsGroup(int number) {
        for (int i = 0; i < number; i++) {
            if (claims[i].isOfGroup(claims[number])) {
                return false;
            }
        }
        return true;
    }

    private long lossesOfGroup(int first) {
        long losses = 0;
        for (int i = first; i < claimCount; i++) {
            if (claims[i].isOfGroup(claims[first])) {
                losses += claims[i].limitedLoss();
            }
        }
        return losses;
    }

    private long borneOf(Event event) {
        return years[yearOfDay(event.day)].borneOf(costOf(event));
    }

    private long costIn(int year) {
        long cost = 0;
        for (int i = 0; i < eventCount; i++) {
            if (yearOfDay(events[i].day) == year) {
                cost += borneOf(events[i]);
            }
        }
        return cost;
    }

    // ---- dues

    private long advanceOf(Member member, int year) {
        return weightIn(member, year) * years[year].advance / 1000;
    }

    private long dueOf(Member member, int year) {
        if (years[year].closed || member.released[year]) {
            return member.lastingDues[year];
        }
        long advance = advanceOf(member, year);
        return advance + advance * years[year].further / 100;
    }

    private long owedBy(Member member) {
        long owed = -member.paid;
        for (int year = 0; year < YEARS; year++) {
            owed += dueOf(member, year);
        }
        return owed;
    }

    private void releaseFrom(Member member, int year, int hundredths) {
        long besides = advanceOf(member, year) * hundredths / 100;
        member.lastingDues[year] = dueOf(member, year) + besides;
        member.released[year] = true;
    }

    private long dueOfReleased(int year) {
        long dues = 0;
        for (int i = 0; i < memberCount; i++) {
            if (members[i].released[year]) {
                dues += members[i].lastingDues[year];
            }
        }
        return dues;
    }

    private boolean isShared(Member member, int year) {
        return !member.released[year] && weightIn(member, year) > 0;
    }

    private void share(int year, long rest) {
        long weights = 0;
        for (int i = 0; i < memberCount; i++) {
            if (isShared(members[i], year)) {
                weights += weightIn(members[i], year);
            }
        }
        if (weights <= 0) {
            reserve -= rest;
            return;
        }
        long left = rest;
        for (int i = 0; i < memberCount; i++) {
            if (isShared(members[i], year)) {
                long part = Math.floorDiv(rest * weightIn(members[i], year), weights);
                members[i].lastingDues[year] = part;
                left -= part;
            }
        }
        shareOneEach(year, left);
    }

    private void shareOneEach(int year, long units) {
        long left = units;
        for (int i = 0; i < memberCount && left > 0; i++) {
            if (isShared(members[i], year)) {
                members[i].lastingDues[year]++;
                left--;
            }
        }
    }

    // ---- arrests

    private boolean isHeld(Ship ship) {
        for (int i = 0; i < claimCount; i++) {
            if ((ship.arrests >> i & 1L) != 0 && claims[i].holdsShips()) {
                return true;
            }
        }
        return false;
    }

    private static final class Member {
        final int[] ratings = new int[YEARS];
        final boolean[] released = new boolean[YEARS];
        // What is due for ever, of the years that are closed or of which it was released.
        final long[] lastingDues = new long[YEARS];
        long paid;
        int stopDay = NONE;

        Member() {
            Arrays.fill(ratings, 100);
        }

        long rated(long tonDays, int year) {
            return tonDays * ratings[year] / 100;
        }

        boolean isStoppedOn(int day) {
            return stopDay != NONE && stopDay <= day;
        }
    }

    private static final class Ship {
        final Member owner;
        final int tonnage;
        Entry current;
        // A bit for each claim for which it was arrested: an arrest can come to life again.
        long arrests;

        Ship(Member owner, int tonnage) {
            this.owner = owner;
            this.tonnage = tonnage;
        }
    }

    private static final class Entry {
        final Ship ship;
        final int from;
        // A ship that is entered now counts as entered on all days to come.
        int until = DAYS;

        Entry(Ship ship, int from) {
            this.ship = ship;
            this.from = from;
        }

        boolean isOn(int day) {
            return from <= day && day < until;
        }

        int daysIn(int year) {
            int first = Math.max(from, year * DAYS_OF_YEAR);
            int behind = Math.min(until, (year + 1) * DAYS_OF_YEAR);
            return Math.max(behind - first, 0);
        }
    }

    private static final class Event {
        final int number;
        final int day;
        int claimCount;

        Event(int number, int day) {
            this.number = number;
            this.day = day;
        }
    }

    private static final class Claim {
        final Ship ship;
        final int kind;
        final Event event;
        int loss;
        int letters;
        boolean settled;
        boolean unlimited;
        boolean coveredAtClose;

        Claim(Ship ship, int kind, int loss, Event event) {
            this.ship = ship;
            this.kind = kind;
            this.loss = loss;
            this.event = event;
        }

        boolean isOfGroup(Claim that) {
            return event == that.event && ship == that.ship && kind == that.kind;
        }

        int limitedLoss() {
            return unlimited ? loss : Math.min(loss, LIMITATION_PER_TON * ship.tonnage);
        }

        boolean holdsShips() {
            return !settled && letters < loss;
        }
    }

    private static final class Year {
        int advance;
        int further;
        boolean closed;
        boolean pooled;
        int retention;
        int bound;
        int share;

        void tellPool(int newRetention, int newBound, int newShare) {
            pooled = true;
            retention = newRetention;
            bound = newBound;
            share = newShare;
        }

        long borneOf(long cost) {
            if (!pooled || cost <= retention) {
                return cost;
            }
            long layer = Math.min(cost, bound) - retention;
            return retention + layer * share / 100 + Math.max(cost - bound, 0);
        }
    }

    private static final class Rules {
        private final int[] deductibles = new int[KINDS * YEARS];
        // NONE where no rule was told.
        private final int[] limits = new int[KINDS * YEARS];

        Rules() {
            Arrays.fill(limits, NONE);
        }

        void tell(int kind, int year, int deductible, int limit) {
            deductibles[kind * YEARS + year] = deductible;
            limits[kind * YEARS + year] = limit;
        }

        long applied(int kind, int year, long counts) {
            int first = kind * YEARS;
            for (int i = first + year; i >= first; i--) {
                if (limits[i] != NONE) {
                    return Math.max(Math.min(counts, limits[i]) - deductibles[i], 0);
                }
            }
            return Math.min(counts, LIMIT_WITHOUT_RULE);
        }
    }
}
