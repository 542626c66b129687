/** Promises 32 to 34: letters of undertaking and arrests. */
public final class LettersArrestsTest {
    private LettersArrestsTest() {
    }

    public static void main(String[] args) {
        promise32Letter();
        promise32LetterOfSettled();
        promise33Arrest();
        promise33ArrestForSeveral();
        promise34IsArrested();
        promise34LooseAndHeldOnceMore();
        promise34ManyClaims();
        Check.end();
    }

    /** Two members, the first with the ships 0 and 1, the second with the ship 2, and a claim of ship 0 of 1000. */
    private static CallClub club() {
        CallClub x = new CallClub();
        x.member();
        x.member();
        x.ship(0, 10);
        x.ship(0, 20);
        x.ship(1, 30);
        x.enter(0);
        x.claim(0, CallClub.CARGO, 0, 1000, CallClub.NONE);
        return x;
    }

    private static void promise32Letter() {
        CallClub x = club();
        Check.index("32 below 0", () -> x.letter(-1, 1));
        Check.index("32 no claim, cents wrong too", () -> x.letter(1, 0));
        Check.argument("32 no cents", () -> x.letter(0, 0));
        Check.argument("32 too many cents", () -> x.letter(0, 100000001));
        Check.equal("32 at first", x.ofClaim(0, 4), 0);
        Check.equal("32 the first", x.letter(0, 1), 1);
        Check.equal("32 added up", x.letter(0, 998), 999);
        Check.state("32 more than the loss", () -> x.letter(0, 2));
        Check.equal("32 as much as the loss", x.letter(0, 1), 1000);
        Check.state("32 more than the loss by 1", () -> x.letter(0, 1));
        Check.equal("32 nothing changed", x.ofClaim(0, 4), 1000);
        x.estimate(0, 100000000);
        Check.equal("32 to the highest", x.letter(0, 99999000), 100000000);
        x.estimate(0, 5);
        Check.state("32 less than its letters now", () -> x.letter(0, 1));
        Check.equal("32 letters stay", x.ofClaim(0, 4), 100000000);
        CallClub y = club();
        y.estimate(0, 100000000);
        Check.equal("32 the highest at once", y.letter(0, 100000000), 100000000);
        Check.state("32 twice the highest", () -> y.letter(0, 100000000));
    }

    private static void promise32LetterOfSettled() {
        CallClub x = club();
        x.settle(0, false);
        Check.state("32 settled", () -> x.letter(0, 1));
        Check.argument("32 settled, cents wrong too", () -> x.letter(0, -1));
    }

    private static void promise33Arrest() {
        CallClub x = club();
        Check.index("33 ship below 0", () -> x.arrest(-1, 0));
        Check.index("33 no ship", () -> x.arrest(3, 0));
        Check.index("33 claim below 0", () -> x.arrest(0, -1));
        Check.index("33 no claim, no sister", () -> x.arrest(2, 1));
        Check.state("33 no sister", () -> x.arrest(2, 0));
        Check.equal("33 a sister, not entered", x.arrest(1, 0), true);
        Check.equal("33 its own", x.arrest(0, 0), true);
        Check.equal("33 once more", x.arrest(1, 0), false);
        x.letter(0, 1000);
        Check.state("33 letters are not less", () -> x.arrest(1, 0));
        x.estimate(0, 0);
        Check.state("33 letters are above", () -> x.arrest(1, 0));
        x.estimate(0, 1001);
        Check.equal("33 arrested by the estimate", x.arrest(1, 0), false);
        x.settle(0, false);
        Check.state("33 settled", () -> x.arrest(1, 0));
        int nothing = x.claim(0, CallClub.CREW, 0, 0, CallClub.NONE);
        Check.state("33 a loss of 0", () -> x.arrest(0, nothing));
    }

    private static void promise33ArrestForSeveral() {
        CallClub x = club();
        int second = x.claim(1, CallClub.CREW, 0, 50, CallClub.NONE);
        Check.equal("33 for the first", x.arrest(1, 0), true);
        Check.equal("33 for the second too", x.arrest(1, second), false);
        x.settle(0, false);
        Check.equal("34 the second holds it", x.isArrested(1), true);
        x.letter(second, 50);
        Check.equal("34 none holds it", x.isArrested(1), false);
        int third = x.claim(0, CallClub.CREW, 0, 50, CallClub.NONE);
        Check.equal("33 free ahead of that", x.arrest(1, third), true);
    }

    private static void promise34IsArrested() {
        CallClub x = club();
        Check.index("34 below 0", () -> x.isArrested(-1));
        Check.index("34 behind all", () -> x.isArrested(3));
        Check.equal("34 at first", x.isArrested(0), false);
        Check.state("34 no sister", () -> x.arrest(2, 0));
        Check.equal("34 a refused arrest changes nothing", x.isArrested(2), false);
        x.arrest(1, 0);
        Check.equal("34 arrested", x.isArrested(1), true);
        Check.equal("34 not the sister", x.isArrested(0), false);
        x.letter(0, 999);
        Check.equal("34 letters less by 1", x.isArrested(1), true);
        x.settle(0, false);
        Check.equal("34 settled", x.isArrested(1), false);
        CallClub y = club();
        y.arrest(0, 0);
        y.settle(0, true);
        Check.equal("34 struck", y.isArrested(0), false);
    }

    private static void promise34LooseAndHeldOnceMore() {
        CallClub x = club();
        x.arrest(1, 0);
        x.letter(0, 1000);
        Check.equal("34 letters as its loss", x.isArrested(1), false);
        x.estimate(0, 1001);
        Check.equal("34 less by an estimate", x.isArrested(1), true);
        x.estimate(0, 1000);
        Check.equal("34 an estimate frees it", x.isArrested(1), false);
        x.estimate(0, 2000);
        x.settle(0, false);
        Check.equal("34 settled for good", x.isArrested(1), false);
    }

    private static void promise34ManyClaims() {
        CallClub x = club();
        for (int claim = 1; claim < 60; claim++) {
            x.claim(claim % 2, CallClub.CREW, 0, claim, CallClub.NONE);
        }
        Check.equal("33 for the last claim", x.arrest(0, 59), true);
        Check.equal("33 for another one, a word further", x.arrest(1, 27), true);
        x.settle(27, false);
        Check.equal("34 the last claim holds", x.isArrested(0), true);
        Check.equal("34 the other one does not", x.isArrested(1), false);
    }
}
