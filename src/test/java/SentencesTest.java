/** Every sentence of the document, term by term and promise by promise, each with rows of its own. */
public final class SentencesTest {
    private SentencesTest() {
    }

    public static void main(String[] args) {
        SaidOfText.all();
        SaidOfDark.all();
        SaidOfGlad.all();
        SaidOfHeld.all();
        SaidOfPlans.all();
        SaidOfMud.all();
        SaidOfActs.all();
        SaidOfRows.all();
        Said.checkAllIsQuoted();
        Check.close("SentencesTest");
    }
}
