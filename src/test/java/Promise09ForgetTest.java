/** No arguments any more. */
public final class Promise09ForgetTest {
  public static void main(String[] args) {
    new Sentences("Promise 9, forget")
        .test("no arguments any more", Promise09ForgetTest::noneAnyMore)
        .test("of 32 none; then there is room for 32 again", Promise09ForgetTest::full)
        .test("where there are none, nothing changes", Promise09ForgetTest::none)
        .test("file and image stay", Promise09ForgetTest::othersStay)
        .finish();
  }

  private static void noneAnyMore(Check check) {
    ImageGate gate = new ImageFile(52).inGate();
    Texts.add(gate, "abc");
    check.loaded("one", gate, 2, 2);
    gate.forget();
    check.no("letters", gate.letters(1));
    check.loaded("forgotten", gate, 2, 2);
    check.about("forgotten", gate, 0, 8176, 8192, 0, 2);
    check.bytes("forgotten", gate, 8176, 0, 0, 0, 0, 0, 0, 0, 0, 0, 0, 0, 0, 0, 0, 0, 0);
  }

  private static void full(Check check) {
    ImageGate gate = new ImageFile(52).inGate();
    Texts.add(gate, 32, 3);
    gate.forget();
    check.loaded("forgotten", gate, 2, 2);
    check.due("about(3)", gate.about(3), 0);
    for (int i = 1; i <= 32; i++) {
      check.yes("argument " + i, gate.argument());
    }
    check.no("argument 33", gate.argument());
  }

  private static void none(Check check) {
    ImageGate gate = new ImageGate();
    gate.forget();
    gate.forget();
    new ImageFile(52).giveTo(gate);
    check.loaded("none to forget", gate, 2, 2);
    check.due("about(3)", gate.about(3), 0);
    check.yes("argument()", gate.argument());
    check.yes("letters(97)", gate.letters(97));
  }

  private static void othersStay(Check check) {
    ImageGate gate = ImageFile.onePart().inGate();
    Texts.add(gate, "abc");
    check.loaded("one", gate, 32, 3);
    gate.forget();
    check.due("length()", gate.length(), 100);
    check.due("why()", gate.why(), 0);
    check.about("the image", gate, 0, 16352 + 16, 16384, 1, 3);
    check.bytes("its part", gate, 4096, 1, 2, 3);
    check.bytes("its argument", gate, 16380, 97, 98, 99, 0);
    check.number("its argument's address", gate, 16368, 16380);
  }
}
