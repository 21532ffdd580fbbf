/** What the document says of an object as a whole, in front of its promises. */
public final class TermsGateTest {
  public static void main(String[] args) {
    new Sentences("What it is")
        .test("an object is used for 512 calls: the 512th is answered too", TermsGateTest::lastCall)
        .test("no call throws, whatever its arguments, in whatever state", TermsGateTest::neverThrows)
        .in("Terms, memory")
        .test("all memory is the gate's own: objects share nothing", TermsGateTest::own)
        .test("it is made once: the largest image can be loaded again and again", TermsGateTest::madeOnce)
        .finish();
  }

  private static void lastCall(Check check) {
    ImageGate gate = new ImageGate();
    new ImageFile(52).giveTo(gate);
    int calls = 5;
    for (; calls < 502; calls++) {
      check.yes("feed", gate.feed(calls, 0, 0, 0, 0));
    }
    check.due("length(), call 503", gate.length(), 52 + 497 * 20);
    check.yes("put, call 504", gate.put(44, 2, 1));
    check.yes("put, call 505", gate.put(28, 4, 52));
    check.yes("put, call 506", gate.put(52, 4, 1));
    check.yes("put, call 507", gate.put(56, 4, 52 + 496 * 20));
    check.yes("put, call 508", gate.put(68, 4, 20));
    check.yes("put, call 509", gate.put(72, 4, 20));
    check.due("load(3), call 510", gate.load(3), 3);
    check.due("at(2), call 511", gate.at(2), 501 >> 8);
    check.due("at(3), call 512", gate.at(3), 501 & 255);
  }

  private static void neverThrows(Check check) {
    int[] edges = {0, 1, -1, 2, 4, 32, 33, 52, 100, 4096, 65535, 65536, -4096, Integer.MAX_VALUE, Integer.MIN_VALUE};
    for (int a : edges) {
      ImageGate[] gates = {new ImageGate(), ImageFile.onePart().inGate(), new ImageFile(308).headers(8).inGate()};
      Texts.add(gates[2], 32, 0);
      for (ImageGate gate : gates) {
        gate.load(32);
        callAll(gate, a, edges);
        check.yes("length() is 0 .. 65,536", gate.length() >= 0 && gate.length() <= 65536);
      }
    }
  }

  private static void callAll(ImageGate gate, int a, int[] edges) {
    gate.at(a);
    gate.flags(a);
    gate.about(a);
    gate.letters(a);
    gate.letters((long) a << 32);
    gate.feed(a, a, a, a, a);
    for (int b : edges) {
      gate.set(a, b);
      gate.put(a, b, a);
      gate.put(a, 4, b);
    }
    gate.load(a);
    gate.argument();
    gate.end(a);
  }

  private static void own(Check check) {
    ImageGate one = ImageFile.onePart().entry(7).inGate();
    Texts.add(one, "one");
    check.loaded("one object", one, 32, 3);
    ImageGate other = new ImageGate();
    check.due("the other's length()", other.length(), 0);
    check.about("the other", other, 0, 0, 0, 0, 0);
    check.due("the other's at(4096)", other.at(4096), ImageGate.NONE);
    new ImageFile(52).entry(8).giveTo(other);
    Texts.add(other, "other");
    check.loaded("the other object", other, 32, 2);
    check.refused("the other object", other, 1, 5);
    check.about("one object", one, 7, 16368, 16384, 1, 3);
    check.due("one object's why()", one.why(), 0);
    check.due("one object's length()", one.length(), 100);
    check.bytes("one object", one, 4096, 1, 2, 3);
    check.bytes("one object", one, 16380, 'o', 'n', 'e', 0);
    check.loaded("one object again", one, 32, 3);
    check.about("the other object", other, 8, 8176, 8192, 1, 2);
  }

  private static void madeOnce(Check check) {
    ImageGate gate = ImageFile.onePart().field(0, ImageFile.SPAN, 30 * 4096).inGate();
    for (int i = 0; i < 160; i++) {
      gate.set(84, i);
      check.loaded("load " + i, gate, 32, 32);
    }
    check.bytes("the latest", gate, 4096, 159, 2, 3);
    check.due("the last page", gate.flags(32 * 4096), 11);
    check.due("behind it", gate.flags(33 * 4096), ImageGate.NONE);
  }
}
