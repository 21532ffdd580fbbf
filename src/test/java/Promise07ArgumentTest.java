/** One argument more, empty: true; false if there are 32. */
public final class Promise07ArgumentTest {
  public static void main(String[] args) {
    new Sentences("Promise 7, argument")
        .test("one argument more: true, up to 32", Promise07ArgumentTest::oneMore)
        .test("it is empty", Promise07ArgumentTest::empty)
        .test("it is empty where a forgotten one had letters", Promise07ArgumentTest::emptyAgain)
        .test("false if there are 32", Promise07ArgumentTest::full)
        .test("then the 32 stay as they are", Promise07ArgumentTest::unchanged)
        .finish();
  }

  private static void oneMore(Check check) {
    ImageGate gate = new ImageFile(52).inGate();
    for (int i = 1; i <= 32; i++) {
      check.yes("argument " + i, gate.argument());
      check.loaded("with " + i, gate, 2, 2);
      check.due("about(3)", gate.about(3), i);
      check.due("about(1)", gate.about(1), (8192 - 4 * i - 4 * (i + 1)) / 16 * 16);
    }
  }

  private static void empty(Check check) {
    ImageGate gate = new ImageFile(52).inGate();
    Texts.add(gate, "ab");
    check.yes("argument()", gate.argument());
    check.loaded("two", gate, 2, 2);
    check.bytes("the empty one, then the first", gate, 8184, 0, 0, 0, 0, 97, 98, 0, 0);
    check.number("its address", gate, gate.about(1) + 4, 8184);
  }

  private static void emptyAgain(Check check) {
    ImageGate gate = new ImageFile(52).inGate();
    Texts.add(gate, 127);
    Texts.add(gate, 127);
    gate.forget();
    check.yes("argument after forget", gate.argument());
    check.yes("a second one", gate.argument());
    check.loaded("empty ones", gate, 2, 2);
    check.about("empty ones", gate, 0, 8160, 8192, 2, 2);
    check.bytes("empty ones", gate, 8184, 0, 0, 0, 0, 0, 0, 0, 0);
  }

  private static void full(Check check) {
    ImageGate gate = new ImageFile(52).inGate();
    Texts.add(gate, 32, 0);
    check.no("argument 33", gate.argument());
    check.no("argument 34", gate.argument());
    check.loaded("with 32", gate, 2, 2);
    check.due("about(3)", gate.about(3), 32);
    gate.forget();
    check.yes("argument after forget", gate.argument());
  }

  private static void unchanged(Check check) {
    ImageGate gate = new ImageFile(52).inGate();
    Texts.add(gate, 31, 3);
    Texts.add(gate, "xy");
    check.no("argument 33", gate.argument());
    check.yes("letters of the 32nd", gate.letters('z'));
    check.loaded("with 32", gate, 2, 2);
    check.bytes("the 32nd and the 31st", gate, 8192 - 32 * 4, 'x', 'y', 'z', 0, 97, 97, 97, 0);
    check.bytes("the first", gate, 8188, 97, 97, 97, 0);
  }
}
