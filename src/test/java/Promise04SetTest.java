/** Byte k of the file becomes b: true; false if there is none such, or b is not 0 .. 255. */
public final class Promise04SetTest {
  public static void main(String[] args) {
    new Sentences("Promise 4, set")
        .test("byte k of the file becomes b: true", Promise04SetTest::becomes)
        .test("the file's first and last bytes too", Promise04SetTest::firstAndLast)
        .test("false if there is none such", Promise04SetTest::noSuchByte)
        .test("false if b is not 0 .. 255", Promise04SetTest::noByte)
        .finish();
  }

  private static void becomes(Check check) {
    ImageGate gate = ImageFile.onePart().inGate();
    check.yes("set(85, 0)", gate.set(85, 0));
    check.yes("set(87, 255)", gate.set(87, 255));
    check.yes("set(89, 128)", gate.set(89, 128));
    check.yes("set(91, 127)", gate.set(91, 127));
    check.yes("set(93, 1)", gate.set(93, 1));
    check.due("length()", gate.length(), 100);
    check.loaded("after set", gate, 32, 3);
    check.bytes("the part", gate, 4096, 1, 0, 3, 255, 5, 128, 7, 127, 9, 1, 11, 12, 13, 14, 15, 16, 0);
  }

  private static void firstAndLast(Check check) {
    ImageGate gate = ImageFile.onePart().inGate();
    check.yes("set(0, 126)", gate.set(0, 126));
    check.refused("no first byte", gate, 32, 1);
    check.yes("set(0, 127)", gate.set(0, 127));
    check.yes("set(99, 200)", gate.set(99, 200));
    check.loaded("the first byte again", gate, 32, 3);
    check.bytes("the last", gate, 4096 + 14, 15, 200, 0);
  }

  private static void noSuchByte(Check check) {
    check.no("set(0, 0) of none", new ImageGate().set(0, 0));
    ImageGate gate = ImageFile.onePart().inGate();
    int[] places = {100, 101, 65535, 65536, 65537, Integer.MAX_VALUE, -1, -100, Integer.MIN_VALUE};
    for (int k : places) {
      check.no("set(" + k + ", 77)", gate.set(k, 77));
    }
    check.due("length()", gate.length(), 100);
    gate.end(99);
    check.no("set(99, 77), cut off", gate.set(99, 77));
    check.yes("set(98, 77)", gate.set(98, 77));
  }

  private static void noByte(Check check) {
    ImageGate gate = ImageFile.onePart().inGate();
    int[] values = {-1, 256, 257, -128, -256, 511, 65536, Integer.MAX_VALUE, Integer.MIN_VALUE};
    for (int b : values) {
      check.no("set(86, " + b + ")", gate.set(86, b));
      check.no("set(100, " + b + ")", gate.set(100, b));
    }
    check.loaded("nothing set", gate, 32, 3);
    check.bytes("the part", gate, 4096, 1, 2, 3, 4, 5);
  }
}
