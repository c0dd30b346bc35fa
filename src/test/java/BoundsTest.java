import java.io.IOException;

/** Each sentence of the document by name, with what is due just below, at and just above its bound. */
public final class BoundsTest {
  public static void main(String[] args) throws IOException {
    Sentences due = new Sentences();
    TermsBounds.all(due);
    SecondBounds.all(due);
    FaultBounds.all(due);
    MakingBounds.all(due);
    HappeningBounds.all(due);
    TellingBounds.all(due);
    due.end("BoundsTest");
  }
}
