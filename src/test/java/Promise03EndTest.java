/** The file has its first n bytes alone: true; false if it has less, or n is below 0. */
public final class Promise03EndTest {
  public static void main(String[] args) {
    new Sentences("Promise 3, end")
        .test("the file has its first n bytes alone: true", Promise03EndTest::firstAlone)
        .test("true for all that it has, and for 0", Promise03EndTest::allAndNone)
        .test("what was behind them does not come back", Promise03EndTest::goneForGood)
        .test("false if it has less", Promise03EndTest::less)
        .test("false if n is below 0", Promise03EndTest::below)
        .finish();
  }

  private static void firstAlone(Check check) {
    ImageGate gate = ImageFile.onePart().inGate();
    check.yes("end(99)", gate.end(99));
    check.due("length()", gate.length(), 99);
    check.no("set(99, 1)", gate.set(99, 1));
    check.refused("a part of 100 bytes", gate, 32, 4);
    gate.put(ImageFile.HEADERS + ImageFile.BYTES, 4, 15);
    check.loaded("a part of 99 bytes", gate, 32, 3);
    check.bytes("the last two", gate, 4096 + 13, 14, 15, 0);
    check.yes("end(83)", gate.end(83));
    check.refused("a header of 31 bytes", gate, 32, 3);
    check.yes("end(51)", gate.end(51));
    check.refused("51 bytes", gate, 32, 1);
  }

  private static void allAndNone(Check check) {
    ImageGate gate = new ImageGate();
    check.yes("end(0) of none", gate.end(0));
    check.due("length()", gate.length(), 0);
    new ImageFile(60).giveTo(gate);
    check.yes("end(60)", gate.end(60));
    check.due("length()", gate.length(), 60);
    check.loaded("60 bytes", gate, 2, 2);
    check.yes("end(0)", gate.end(0));
    check.due("length()", gate.length(), 0);
    check.refused("no bytes", gate, 2, 1);
  }

  private static void goneForGood(Check check) {
    ImageGate gate = ImageFile.onePart().inGate();
    gate.end(86);
    check.no("end(87)", gate.end(87));
    check.no("end(100)", gate.end(100));
    gate.feed(0, 0, 0, 0, 0);
    check.due("length()", gate.length(), 106);
    check.loaded("cut and fed", gate, 32, 3);
    check.bytes("two old ones, then new ones", gate, 4096, 1, 2, 0, 0, 0, 0);
  }

  private static void less(Check check) {
    ImageGate gate = new ImageGate();
    check.no("end(1) of none", gate.end(1));
    new ImageFile(60).giveTo(gate);
    int[] counts = {61, 62, 80, 65536, 65537, Integer.MAX_VALUE};
    unchanged(check, gate, counts);
  }

  private static void below(Check check) {
    ImageGate gate = new ImageGate();
    check.no("end(-1) of none", gate.end(-1));
    new ImageFile(60).giveTo(gate);
    int[] counts = {-1, -2, -60, -65536, Integer.MIN_VALUE};
    unchanged(check, gate, counts);
  }

  private static void unchanged(Check check, ImageGate gate, int[] counts) {
    for (int n : counts) {
      check.no("end(" + n + ")", gate.end(n));
      check.due("length() after end(" + n + ")", gate.length(), 60);
    }
    check.loaded("the file stays", gate, 2, 2);
  }
}
