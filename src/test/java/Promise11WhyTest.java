/** Why the latest load refused: 1 .. 6; 0 if it did not, or there was none. TermsWhyTest has each reason's edges. */
public final class Promise11WhyTest {
  public static void main(String[] args) {
    new Sentences("Promise 11, why")
        .test("0 if there was no load", Promise11WhyTest::noLoad)
        .test("why the load refused: 1 .. 5", Promise11WhyTest::reasons)
        .test("why the load refused: 6", Promise11WhyTest::stack)
        .test("0 if it did not refuse, whatever was before", Promise11WhyTest::notRefused)
        .test("the latest load's, not an earlier one's", Promise11WhyTest::latest)
        .test("it stays until the next load", Promise11WhyTest::stays)
        .finish();
  }

  private static void noLoad(Check check) {
    check.due("why()", new ImageGate().why(), 0);
    ImageGate gate = new ImageGate();
    gate.feed(1, 2, 3, 4, 5);
    check.no("letters", gate.letters(1));
    check.no("end(-1)", gate.end(-1));
    check.no("set(-1, 0)", gate.set(-1, 0));
    check.due("about(9)", gate.about(9), ImageGate.NONE);
    check.due("at(0)", gate.at(0), ImageGate.NONE);
    check.due("why() after other refused calls", gate.why(), 0);
  }

  private static void reasons(Check check) {
    check.refused("no file", new ImageGate(), 32, 1);
    ImageGate gate = ImageFile.onePart().inGate();
    gate.put(16, 2, 1);
    check.refused("another kind", gate, 32, 2);
    gate.put(16, 2, 2);
    gate.put(28, 4, 69);
    check.refused("a header outside", gate, 32, 3);
    gate.put(28, 4, 52);
    gate.put(ImageFile.HEADERS + ImageFile.ADDRESS, 4, 2048);
    check.refused("a wrong part", gate, 32, 4);
    gate.put(ImageFile.HEADERS + ImageFile.ADDRESS, 4, 0);
    check.refused("too few pages", gate, 2, 5);
  }

  /** More calls than an object is promised for: 512 calls can't bring so many letters and a file. */
  private static void stack(Check check) {
    ImageGate gate = ImageFile.onePart().inGate();
    Texts.add(gate, 32, 120);
    check.refused("no room on the stack", gate, 32, 6);
    gate.forget();
    check.loaded("room again", gate, 32, 3);
  }

  private static void notRefused(Check check) {
    ImageGate gate = new ImageGate();
    check.refused("no file", gate, 32, 1);
    new ImageFile(52).giveTo(gate);
    check.loaded("an image", gate, 32, 2);
    check.refused("too few pages", gate, 1, 5);
    check.loaded("enough pages", gate, 2, 2);
    check.due("why() again", gate.why(), 0);
  }

  private static void latest(Check check) {
    ImageGate gate = new ImageFile(52).inGate();
    check.loaded("an image", gate, 32, 2);
    check.refused("too few pages", gate, 1, 5);
    gate.put(20, 4, 0);
    check.refused("another version", gate, 1, 2);
    gate.end(51);
    check.refused("too short", gate, 1, 1);
  }

  private static void stays(Check check) {
    ImageGate gate = new ImageFile(52).inGate();
    check.refused("too few pages", gate, 1, 5);
    gate.feed(1, 2, 3, 4, 5);
    gate.end(52);
    gate.set(51, 1);
    gate.put(48, 2, 1);
    gate.length();
    gate.argument();
    gate.letters(1);
    gate.forget();
    gate.about(0);
    gate.at(0);
    gate.flags(0);
    check.due("why() after other calls", gate.why(), 5);
    check.due("why() once more", gate.why(), 5);
    check.loaded("enough pages", gate, 2, 2);
    gate.end(0);
    gate.letters(1);
    check.due("why() after other calls", gate.why(), 0);
  }
}
