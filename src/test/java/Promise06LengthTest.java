/** How many bytes the file has. */
public final class Promise06LengthTest {
  public static void main(String[] args) {
    new Sentences("Promise 6, length")
        .test("how many bytes the file has: none at first, 20 more by each feed", Promise06LengthTest::fed)
        .test("fewer by end, 0 too", Promise06LengthTest::ended)
        .test("no other call changes it", Promise06LengthTest::otherCalls)
        .finish();
  }

  private static void fed(Check check) {
    ImageGate gate = new ImageGate();
    check.due("length() of none", gate.length(), 0);
    for (int i = 1; i <= 200; i++) {
      gate.feed(0, 0, 0, 0, 0);
      check.due("length() after " + i + " feeds", gate.length(), 20 * i);
    }
  }

  private static void ended(Check check) {
    ImageGate gate = new ImageFile(77).inGate();
    check.due("length()", gate.length(), 77);
    int[] counts = {77, 76, 33, 1, 0};
    for (int n : counts) {
      gate.end(n);
      check.due("length() after end(" + n + ")", gate.length(), n);
    }
  }

  private static void otherCalls(Check check) {
    ImageGate gate = ImageFile.onePart().inGate();
    gate.set(5, 5);
    gate.put(96, 4, -1);
    gate.argument();
    gate.letters(-1);
    check.refused("a wrong byte", gate, 32, 1);
    check.due("length() after a refused load", gate.length(), 100);
    gate.set(5, 1);
    check.loaded("100 bytes", gate, 32, 3);
    check.due("length() after a load", gate.length(), 100);
    gate.forget();
    gate.about(2);
    gate.at(4096);
    gate.flags(4096);
    gate.why();
    check.due("length() after other calls", gate.length(), 100);
  }
}
