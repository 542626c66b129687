import java.io.IOException;

/** Each sentence of the document that names a boundary case, by a test of its own. */
public final class SentencesTest {
    private SentencesTest() {
    }

    public static void main(String[] args) throws IOException {
        TermsShipsBounds.all();
        TermsClaimsBounds.all();
        TermsClosingBounds.all();
        MembersBounds.all();
        ClaimsBounds.all();
        ClosingBounds.all();
        LettersBounds.all();
        Doc.compare();
        Check.end();
    }
}
