/** AN IMAGE: the first 52 bytes, and where the headers are. */
public final class TermsImageTest {
  public static void main(String[] args) {
    new Sentences("Term AN IMAGE")
        .test("bytes 0 to 6 are 127 69 76 70 1 1 1", TermsImageTest::firstSeven)
        .test("at 16 a 2", check -> onlyThis(check, 16, 2, 2))
        .test("at 18 a 243", check -> onlyThis(check, 18, 2, 243))
        .test("at 20 a 1", check -> onlyThis(check, 20, 4, 1))
        .test("at 24 the ENTRY, whatever it is", TermsImageTest::entry)
        .test("at 28 where headers begin, wherever in the file", TermsImageTest::begin)
        .test("at 42 a 32", check -> onlyThis(check, 42, 2, 32))
        .test("at 44 how many headers there are: 0 .. 8", TermsImageTest::headerCount)
        .test("0 headers: an image of no part", TermsImageTest::noHeaders)
        .test("8 headers of 32 bytes each", TermsImageTest::eightHeaders)
        .test("all headers are in the file: up to its last byte", TermsImageTest::headersInFile)
        .test("what else the first 52 bytes have means nothing", TermsImageTest::elseNothing)
        .test("but there are so many", TermsImageTest::soMany)
        .finish();
  }

  private static void firstSeven(Check check) {
    int[] first = {127, 69, 76, 70, 1, 1, 1};
    for (int k = 0; k < first.length; k++) {
      int[] others = {first[k] - 1, first[k] + 1, first[k] | 128, 0, 255};
      for (int b : others) {
        check.refused("byte " + k + " is " + b, new ImageFile(52).number(k, 1, b), 1);
      }
    }
    check.loaded("byte 7 is another", new ImageFile(52).number(7, 1, 255), 2);
  }

  /** Each bit of the number counts, the highest byte's too. */
  private static void onlyThis(Check check, int k, int n, int v) {
    check.loaded("at " + k + " a " + v, new ImageFile(52).number(k, n, v), 2);
    for (int bit = 0; bit < 8 * n; bit++) {
      check.refused("at " + k + " bit " + bit + " is another", new ImageFile(52).number(k, n, v ^ 1 << bit), 2);
    }
    int[] others = {v - 1, v + 1, 0, -1};
    for (int other : others) {
      check.refused("at " + k + " a " + other, new ImageFile(52).number(k, n, other), 2);
    }
  }

  private static void entry(Check check) {
    int[] entries = {0, 1, 4096, 4097, 8191, 8192, 16384, Integer.MAX_VALUE, Integer.MIN_VALUE, -1};
    for (int entry : entries) {
      ImageGate gate = check.loaded("ENTRY " + entry, ImageFile.onePart().entry(entry), 3);
      check.due("about(0)", gate.about(0), entry);
    }
  }

  private static void begin(Check check) {
    ImageFile behind = new ImageFile(116).headers(1).begin(84).part(1, 116, 0, 0, 1, 4);
    check.loaded("the last 32 bytes", behind, 3);
    check.loaded("an odd place", new ImageFile(100).headers(1).begin(61).number(61, 4, 1).number(81, 4, 1), 3);
    check.loaded("0: a header of another kind", new ImageFile(52).headers(1).begin(0), 2);
    // At 20 the version makes its kind 1, and where the headers begin, 20, its address: a part, and a wrong one.
    check.refused("20: a header of kind 1", new ImageFile(52).headers(1).begin(20), 4);
    // At 12 the kind is free, the address is the version, the span what is at 32.
    check.loaded("12: span 0", new ImageFile(52).headers(1).begin(12).number(12, 4, 1), 2);
    check.refused("12: address 1", new ImageFile(52).headers(1).begin(12).number(12, 4, 1).number(32, 4, 1), 4);
  }

  private static void headerCount(Check check) {
    for (int n = 0; n <= 8; n++) {
      check.loaded(n + " headers", new ImageFile(52 + 9 * 32).headers(n), 2);
    }
    int[] wrong = {9, 10, 16, 255, 256, 257, 0x0800, 0x7FFF, 0x8000, 0x8001, 0xFFFF};
    for (int n : wrong) {
      check.refused(n + " headers", new ImageFile(52 + 9 * 32).headers(n), 2);
    }
  }

  private static void noHeaders(Check check) {
    ImageGate gate = check.loaded("52 bytes", new ImageFile(52), 2);
    check.about("no part", gate, 0, 8176, 8192, 0, 2);
    check.loaded("a header that is not counted", ImageFile.onePart().headers(0), 2);
    // No header is outside the file if there is none, wherever they would begin.
    long[] begins = {0, 21, 53, 65536, 0x7FFFFFFFL, 0x80000000L, 0xFFFFFFFFL};
    for (long begin : begins) {
      check.loaded("none at " + begin, new ImageFile(52).begin(begin), 2);
    }
  }

  private static void eightHeaders(Check check) {
    ImageFile file = new ImageFile(308).headers(8);
    for (int i = 0; i < 8; i++) {
      file.part(i, i, 8192 * i, 1, 1, i);
    }
    ImageGate gate = check.loaded("eight parts", file, 10);
    for (int i = 0; i < 8; i++) {
      check.due("part " + i, gate.at(8192 * i), file.bytes()[i]);
      check.due("behind it", gate.at(8192 * i + 4096), i < 7 ? ImageGate.NONE : 0);
    }
    check.refused("the eighth is wrong", file.field(7, ImageFile.ADDRESS, 1), 4);
    check.loaded("the eighth is not counted", file.headers(7), 9);
  }

  private static void headersInFile(Check check) {
    for (int n = 1; n <= 8; n++) {
      int length = 52 + 32 * n;
      check.loaded(n + " to the file's end", new ImageFile(length).headers(n), 2);
      check.refused(n + ", one byte too few", new ImageFile(length - 1).headers(n), 3);
      check.refused(n + ", the last one missing", new ImageFile(length - 32).headers(n), 3);
      check.refused(n + ", one byte too far", new ImageFile(length).headers(n).begin(53), 3);
    }
    check.refused("it begins at the file's end", new ImageFile(100).headers(1).begin(100), 3);
    check.refused("it begins behind the file's end", new ImageFile(100).headers(1).begin(101), 3);
    ImageGate gate = new ImageFile(116).headers(2).inGate();
    check.loaded("two in a file of 116", gate, 32, 2);
    gate.end(115);
    check.refused("the file was cut", gate, 32, 3);
  }

  private static void elseNothing(Check check) {
    int[][] places = {{7, 16}, {32, 42}, {46, 52}};
    int[] values = {255, 128, 1};
    for (int[] place : places) {
      for (int k = place[0]; k < place[1]; k++) {
        for (int b : values) {
          ImageGate gate = check.loaded("byte " + k + " is " + b, ImageFile.onePart().number(k, 1, b), 3);
          check.about("byte " + k + " is " + b, gate, 0, 16368, 16384, 0, 3);
        }
      }
    }
  }

  private static void soMany(Check check) {
    check.loaded("52 bytes", new ImageFile(52), 2);
    ImageGate gate = new ImageFile(52).inGate();
    for (int n = 51; n >= 0; n--) {
      gate.end(n);
      check.refused(n + " bytes", gate, 32, 1);
    }
  }
}
