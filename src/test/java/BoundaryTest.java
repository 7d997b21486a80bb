import java.io.IOException;

/** Each sentence of the document that names a boundary case has a test of its own, and none is left without one. */
public final class BoundaryTest {
    public static void main(String[] args) throws IOException {
        Boundaries boundaries = new Boundaries();
        new TermBoundaries(boundaries).all();
        new MinuteBoundaries(boundaries).all();
        new MachineBoundaries(boundaries).all();
        new AnswerBoundaries(boundaries).all();
        new AheadBoundaries(boundaries).all();
        boundaries.end();
    }
}
