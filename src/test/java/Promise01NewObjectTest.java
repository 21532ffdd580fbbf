/** A new object: no file, no arguments, no image. */
public final class Promise01NewObjectTest {
  public static void main(String[] args) {
    new Sentences("Promise 1, a new object")
        .test("no file", Promise01NewObjectTest::noFile)
        .test("no arguments", Promise01NewObjectTest::noArguments)
        .test("no image", Promise01NewObjectTest::noImage)
        .test("the constant NONE is -1", check -> check.due("NONE", ImageGate.NONE, -1))
        .finish();
  }

  private static void noFile(Check check) {
    ImageGate gate = new ImageGate();
    check.due("length()", gate.length(), 0);
    check.no("set(0, 0)", gate.set(0, 0));
    check.no("put(0, 1, 0)", gate.put(0, 1, 0));
    check.no("end(1)", gate.end(1));
    check.refused("an empty file", gate, 32, 1);
  }

  private static void noArguments(Check check) {
    ImageGate gate = new ImageGate();
    check.no("letters(97)", gate.letters(97));
    new ImageFile(52).giveTo(gate);
    check.loaded("an image", gate, 32, 2);
    check.due("about(3)", gate.about(3), 0);
    check.due("about(1)", gate.about(1), 8176);
    for (int i = 1; i <= 32; i++) {
      check.yes("argument " + i, gate.argument());
    }
  }

  private static void noImage(Check check) {
    ImageGate gate = new ImageGate();
    check.about("without an image", gate, 0, 0, 0, 0, 0);
    check.due("why()", gate.why(), 0);
    int[] addresses = {0, 1, 4095, 4096, 8176, 8192, -1, Integer.MAX_VALUE, Integer.MIN_VALUE};
    for (int a : addresses) {
      check.due("at(" + a + ")", gate.at(a), ImageGate.NONE);
      check.due("flags(" + a + ")", gate.flags(a), ImageGate.NONE);
    }
  }
}
