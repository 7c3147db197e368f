import java.io.IOException;

/** Each boundary case that the document names, under the sentence that names it. */
public final class BoundaryTest {
    public static void main(String[] args) throws IOException {
        Sentences s = new Sentences(args.length > 0 ? args[0] : "../shared");
        RoomBounds.run(s);
        SightBounds.run(s);
        HourBounds.run(s);
        TextBounds.run(s);
        SheetBounds.run(s);
        ImageBounds.run(s);
        s.end();
    }
}
