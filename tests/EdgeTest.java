import java.io.IOException;
import java.nio.file.Path;

/** Each sentence of the document, the boundary cases it names first, in the document's order; then the ledger of what has a test. */
public final class EdgeTest {
  public static void main(String[] args) throws IOException {
    if (args.length < 2) {
      System.out.println("usage: EdgeTest Snowpalace.java DOC.md");
      System.exit(1);
    }
    Edge.read(Path.of(args[1]));
    EdgeOfWeather.run();
    EdgeOfRiver.run();
    EdgeOfCells.run();
    EdgeOfHours.run();
    EdgeOfCrowds.run();
    EdgeOfTeams.run();
    EdgeOfCity.run();
    EdgeOfPromises.run();
    Edge.ledger();
    Check.end();
  }
}
