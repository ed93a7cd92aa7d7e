/** A test of its own for each sentence of the document, at the boundary cases that it names. */
public final class BoundariesTest extends Boundaries {
    public static void main(String[] args) {
        TermsBoundaries.all();
        CommandsBoundaries.all();
        UndoBoundaries.all();
        ChangesBoundaries.all();
        AnswersBoundaries.all();
        ProgramsBoundaries.all();
        checkNoneLeftOut();
        Check.end("BoundariesTest");
    }
}
