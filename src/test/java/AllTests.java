import java.io.IOException;

/** Runs every test of the project; the argument is the path of Smartcrate.java. */
public final class AllTests {
  private AllTests() {}

  public static void main(String[] arguments) throws IOException {
    FaceTests.run(arguments.length > 0 ? arguments[0] : "src/main/java/Smartcrate.java");
    TrackTests.run();
    TagTests.run();
    RuleTests.run();
    ListTests.run();
    TrackEdgeTests.run();
    TagEdgeTests.run();
    RuleEdgeTests.run();
    ListEdgeTests.run();
    FigureEdgeTests.run();
    ModelTests.run();
    if (!Check.close()) {
      System.exit(1);
    }
  }
}
