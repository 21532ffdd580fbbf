/** n bytes of the file from k on, the lowest first, become v: true; false if not all are there, or n is another. */
public final class Promise05PutTest {
  public static void main(String[] args) {
    new Sentences("Promise 5, put")
        .test("n bytes from k on, the lowest first, become v: true", Promise05PutTest::lowestFirst)
        .test("the file's first and last bytes too", Promise05PutTest::firstAndLast)
        .test("of a v that n bytes can't hold they become its lowest", Promise05PutTest::lowestOfMore)
        .test("false if not all are there", Promise05PutTest::notAllThere)
        .test("then those that are there stay", Promise05PutTest::unchanged)
        .test("false if n is not 1, 2 or 4", Promise05PutTest::otherCounts)
        .finish();
  }

  private static void lowestFirst(Check check) {
    ImageGate gate = ImageFile.onePart().inGate();
    check.yes("put 4", gate.put(85, 4, 0x81A2C3E4));
    check.yes("put 2", gate.put(90, 2, 0x1234));
    check.yes("put 1", gate.put(93, 1, 0x56));
    check.due("length()", gate.length(), 100);
    check.loaded("after put", gate, 32, 3);
    check.bytes("the part", gate, 4096, 1, 0xE4, 0xC3, 0xA2, 0x81, 6, 0x34, 0x12, 9, 0x56, 11, 12);
  }

  private static void firstAndLast(Check check) {
    ImageGate gate = ImageFile.onePart().inGate();
    check.yes("put(0, 4, 0)", gate.put(0, 4, 0));
    check.refused("no first bytes", gate, 32, 1);
    check.yes("put(0, 2, 17791)", gate.put(0, 2, 0x457F));
    check.refused("two of them", gate, 32, 1);
    check.yes("put(0, 4, 1179403647)", gate.put(0, 4, 0x464C457F));
    check.yes("put(96, 4, -1)", gate.put(96, 4, -1));
    check.yes("put(98, 2, 0)", gate.put(98, 2, 0));
    check.yes("put(99, 1, 5)", gate.put(99, 1, 5));
    check.loaded("the last bytes", gate, 32, 3);
    check.bytes("the last bytes", gate, 4096 + 11, 12, 255, 255, 0, 5, 0);
  }

  private static void lowestOfMore(Check check) {
    ImageGate gate = ImageFile.onePart().inGate();
    check.yes("put 1 of more", gate.put(84, 1, 0x7FFFFF80));
    check.yes("put 1 of -2", gate.put(86, 1, -2));
    check.yes("put 2 of more", gate.put(88, 2, 0x7FFF1234));
    check.yes("put 2 of min", gate.put(91, 2, Integer.MIN_VALUE));
    check.loaded("after put", gate, 32, 3);
    check.bytes("the part", gate, 4096, 0x80, 2, 254, 4, 0x34, 0x12, 7, 0, 0, 10);
  }

  private static void notAllThere(Check check) {
    check.no("put(0, 1, 0) of none", new ImageGate().put(0, 1, 0));
    ImageGate gate = ImageFile.onePart().inGate();
    int[] places = {100, 101, 65535, 65536, Integer.MAX_VALUE, Integer.MAX_VALUE - 1, Integer.MAX_VALUE - 3,
      -1, -2, -4, -5, Integer.MIN_VALUE};
    for (int k : places) {
      check.no("put(" + k + ", 1, 0)", gate.put(k, 1, 0));
      check.no("put(" + k + ", 2, 0)", gate.put(k, 2, 0));
      check.no("put(" + k + ", 4, 0)", gate.put(k, 4, 0));
    }
    check.no("put(99, 2, 0)", gate.put(99, 2, 0));
    check.no("put(97, 4, 0)", gate.put(97, 4, 0));
    check.due("length()", gate.length(), 100);
    gate.end(96);
    check.no("put(93, 4, 0), cut off", gate.put(93, 4, 0));
    check.yes("put(92, 4, 0)", gate.put(92, 4, 0));
  }

  private static void unchanged(Check check) {
    ImageGate gate = ImageFile.onePart().inGate();
    int[][] calls = {{99, 2}, {99, 4}, {98, 4}, {97, 4}, {-1, 2}, {-1, 4}, {-2, 4}, {-3, 4}};
    for (int[] call : calls) {
      check.no("put(" + call[0] + ", " + call[1] + ", 0)", gate.put(call[0], call[1], 0));
    }
    check.loaded("nothing put", gate, 32, 3);
    check.bytes("the last", gate, 4096 + 12, 13, 14, 15, 16, 0);
  }

  private static void otherCounts(Check check) {
    ImageGate gate = ImageFile.onePart().inGate();
    int[] counts = {0, 3, 5, 6, 7, 8, 16, -1, -2, -4, Integer.MAX_VALUE, Integer.MIN_VALUE};
    for (int n : counts) {
      check.no("put(84, " + n + ", 0)", gate.put(84, n, 0));
      check.no("put(100, " + n + ", 0)", gate.put(100, n, 0));
    }
    check.loaded("nothing put", gate, 32, 3);
    check.bytes("the part", gate, 4096, 1, 2, 3, 4, 5, 6, 7, 8, 9);
  }
}
