/** Promises 32 to 34, sentence by sentence: each bound, its neighbour that is allowed, and what is refused. */
final class LettersBounds {
    private static final int NONE = CallClub.NONE;
    private static final int CREW = CallClub.CREW;
    private static final int LOSS = 100000000;

    private LettersBounds() {
    }

    static void all() {
        letter();
        arrest();
        isArrested();
    }

    private static void letter() {
        Doc.promise(32);
        Doc.says("1 to 100000000", LettersBounds::letterCents);
        Doc.says("all letters of the claim then", LettersBounds::allLetters);
        Doc.says("there is no such claim", LettersBounds::letterOfNoClaim);
        Doc.says("cents is out of its range", LettersBounds::lettersOutside);
        Doc.says("it is settled", LettersBounds::lettersOfSettled);
        Doc.says("they would be more than its loss", LettersBounds::moreThanItsLoss);
    }

    private static void arrest() {
        Doc.promise(33);
        Doc.says("whether it was not arrested ahead of that", LettersBounds::notArrestedAhead);
        Doc.says("no such ship", LettersBounds::arrestsNoShip);
        Doc.says("or claim", LettersBounds::arrestsForNoClaim);
        Doc.says("the ship is no sister", LettersBounds::arrestsNoSister);
        Doc.says("the claim is settled", LettersBounds::arrestsForSettled);
        Doc.says("its letters are not less than its loss", LettersBounds::arrestsAgainstLetters);
    }

    private static void isArrested() {
        Doc.promise(34);
        Doc.says("whether it is", LettersBounds::isArrestedOrNot);
        Doc.says("there is no such ship", LettersBounds::noShipIsArrested);
    }

    /** Two members, the first with the ships 0 and 1, the second with the ship 2, and a claim of ship 0 of the loss. */
    private static CallClub withLoss(int loss) {
        CallClub x = new CallClub();
        x.member();
        x.member();
        x.ship(0, 10);
        x.ship(0, 10);
        x.ship(1, 10);
        x.claim(0, CREW, 0, loss, NONE);
        return x;
    }

    // ---- promise 32

    private static void letterCents() {
        CallClub x = withLoss(LOSS);
        Check.equal("1", x.letter(0, 1), 1);
        CallClub y = withLoss(LOSS);
        Check.equal("100000000", y.letter(0, 100000000), 100000000);
        CallClub z = withLoss(LOSS);
        Check.equal("99999999", z.letter(0, 99999999), 99999999);
    }

    private static void allLetters() {
        CallClub x = withLoss(100);
        x.claim(0, CREW, 0, 50, NONE);
        Check.equal("the first", x.letter(0, 60), 60);
        Check.equal("of another claim", x.letter(1, 50), 50);
        Refuses.argument(x, "refused", c -> c.letter(0, 0));
        Check.equal("both, without the refused one", x.letter(0, 40), 100);
    }

    private static void letterOfNoClaim() {
        CallClub x = new CallClub();
        Refuses.noSuch(x, "of none, claim", 0, (c, v) -> c.letter(v, 5));
        CallClub y = withLoss(100);
        y.claim(0, CREW, 0, 50, NONE);
        Refuses.noSuch(y, "of two, claim", 2, (c, v) -> c.letter(v, 5));
        Check.equal("the last one", y.letter(1, 5), 5);
        Check.equal("not the first one", y.ofClaim(0, 4), 0);
    }

    private static void lettersOutside() {
        CallClub x = withLoss(LOSS);
        Refuses.outside(x, "cents", 1, 100000000, (c, v) -> c.letter(0, v));
        Check.equal("none was given", x.ofClaim(0, 4), 0);
    }

    private static void lettersOfSettled() {
        CallClub x = withLoss(100);
        x.claim(0, CREW, 0, 100, NONE);
        x.claim(0, CREW, 0, 100, NONE);
        x.letter(0, 5);
        x.settle(0, false);
        x.settle(1, true);
        Refuses.state(x, "settled", c -> c.letter(0, 5));
        Refuses.state(x, "struck", c -> c.letter(1, 5));
        Check.equal("those ahead of it stay", x.ofClaim(0, 4), 5);
        Check.equal("one that is not", x.letter(2, 5), 5);
    }

    private static void moreThanItsLoss() {
        CallClub x = withLoss(100);
        Refuses.state(x, "more by 1, at once", c -> c.letter(0, 101));
        Refuses.state(x, "far more", c -> c.letter(0, LOSS));
        x.letter(0, 99);
        Refuses.state(x, "more by 1, together", c -> c.letter(0, 2));
        Check.equal("as much", x.letter(0, 1), 100);
        Refuses.state(x, "more by 1, though the least", c -> c.letter(0, 1));
        x.estimate(0, 101);
        Check.equal("as much as the new estimate", x.letter(0, 1), 101);
        x.estimate(0, 0);
        Refuses.state(x, "the loss is less than those given", c -> c.letter(0, 1));
        CallClub y = withLoss(0);
        Refuses.state(y, "without a loss", c -> c.letter(0, 1));
        y.estimate(0, 1);
        Check.equal("the loss 1", y.letter(0, 1), 1);
        CallClub z = withLoss(LOSS);
        z.letter(0, LOSS);
        Refuses.state(z, "twice the highest", c -> c.letter(0, LOSS));
    }

    // ---- promises 33 and 34

    private static void notArrestedAhead() {
        CallClub x = withLoss(100);
        x.claim(1, CREW, 0, 100, NONE);
        Check.equal("was not", x.arrest(0, 0), true);
        Check.equal("was, for the same claim", x.arrest(0, 0), false);
        Check.equal("was, for another claim", x.arrest(0, 1), false);
        Check.equal("a sister was not", x.arrest(1, 0), true);
        x.settle(0, false);
        Check.equal("was, for the claim that is left", x.arrest(0, 1), false);
        Check.equal("its claim being settled, was not", x.arrest(1, 1), true);
        CallClub y = withLoss(100);
        y.arrest(0, 0);
        y.letter(0, 100);
        y.claim(1, CREW, 0, 100, NONE);
        Check.equal("the letters being as its loss, was not", y.arrest(0, 1), true);
        Refuses.state(y, "refused", c -> c.arrest(1, 0));
        Check.equal("not by a refused arrest", y.arrest(1, 1), true);
    }

    private static void arrestsNoShip() {
        CallClub x = withLoss(100);
        Refuses.noSuch(x, "ship", 3, (c, v) -> c.arrest(v, 0));
        x.claim(2, CREW, 0, 100, NONE);
        Check.equal("the last one", x.arrest(2, 1), true);
        Check.equal("the first one", x.arrest(0, 0), true);
    }

    private static void arrestsForNoClaim() {
        CallClub x = new CallClub();
        x.ship(x.member(), 10);
        Refuses.noSuch(x, "of none, claim", 0, (c, v) -> c.arrest(0, v));
        x.claim(0, CREW, 0, 100, NONE);
        x.claim(0, CREW, 0, 100, NONE);
        Refuses.noSuch(x, "of two, claim", 2, (c, v) -> c.arrest(0, v));
        Check.equal("the last one", x.arrest(0, 1), true);
        Check.equal("the first one", x.arrest(0, 0), false);
    }

    private static void arrestsNoSister() {
        CallClub x = withLoss(100);
        Refuses.state(x, "of another member", c -> c.arrest(2, 0));
        Check.equal("not arrested", x.isArrested(2), false);
        Check.equal("a sister, never entered", x.arrest(1, 0), true);
        Check.equal("its own", x.arrest(0, 0), true);
        CallClub y = Clubs.ofTonnages(10, 10);
        y.collide(0, 1, 50, 100, 100);
        Refuses.state(y, "the one it collided with", c -> c.arrest(1, 0));
        Check.equal("for the claim of its own", y.arrest(1, 1), true);
    }

    private static void arrestsForSettled() {
        CallClub x = withLoss(100);
        x.claim(0, CREW, 0, 100, NONE);
        x.claim(0, CREW, 0, 100, NONE);
        x.settle(0, false);
        x.settle(1, true);
        Refuses.state(x, "settled", c -> c.arrest(0, 0));
        Refuses.state(x, "struck", c -> c.arrest(1, 1));
        Check.equal("not arrested", x.isArrested(0), false);
        Check.equal("one that is not settled", x.arrest(0, 2), true);
        Refuses.state(x, "settled, the ship being arrested", c -> c.arrest(0, 0));
    }

    private static void arrestsAgainstLetters() {
        CallClub x = withLoss(100);
        x.letter(0, 99);
        Check.equal("less by 1", x.arrest(0, 0), true);
        x.letter(0, 1);
        Refuses.state(x, "as its loss", c -> c.arrest(0, 0));
        Refuses.state(x, "as its loss, a sister", c -> c.arrest(1, 0));
        x.estimate(0, 99);
        Refuses.state(x, "more than its loss", c -> c.arrest(1, 0));
        x.estimate(0, 101);
        Check.equal("less again", x.arrest(1, 0), true);
        CallClub y = withLoss(0);
        Refuses.state(y, "no letters and no loss", c -> c.arrest(0, 0));
        y.estimate(0, 1);
        Check.equal("no letters and the loss 1", y.arrest(0, 0), true);
    }

    private static void isArrestedOrNot() {
        CallClub x = withLoss(100);
        Check.equal("not at first", x.isArrested(1), false);
        x.arrest(1, 0);
        Check.equal("arrested", x.isArrested(1), true);
        Check.equal("not the ship of the claim", x.isArrested(0), false);
        Check.equal("not another's", x.isArrested(2), false);
        x.enter(1);
        x.pass(100);
        x.leave(1);
        Check.equal("as the days pass, and as it leaves", x.isArrested(1), true);
        x.settle(0, false);
        Check.equal("not any more", x.isArrested(1), false);
    }

    private static void noShipIsArrested() {
        CallClub x = new CallClub();
        Refuses.noSuch(x, "of none, ship", 0, (c, v) -> c.isArrested(v));
        CallClub y = withLoss(100);
        Refuses.noSuch(y, "of three, ship", 3, (c, v) -> c.isArrested(v));
        Check.equal("the last one", y.isArrested(2), false);
    }
}
