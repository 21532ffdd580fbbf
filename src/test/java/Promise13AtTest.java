/** The byte at an address of the image; NONE if its page is not there. */
public final class Promise13AtTest {
  private static final int[] FAR = {-1, -4095, -4096, -8192, Integer.MIN_VALUE, Integer.MIN_VALUE + 8192,
    Integer.MAX_VALUE, Integer.MAX_VALUE - 4095, 1 << 30, 0x40002000};

  public static void main(String[] args) {
    new Sentences("Promise 13, at")
        .test("the byte at an address of the image, 0 .. 255", Promise13AtTest::bytes)
        .test("the first and the last byte of each page", Promise13AtTest::pageEdges)
        .test("NONE if its page is not there: in front, between, behind", Promise13AtTest::notThere)
        .test("NONE far outside, for addresses below 0 too", Promise13AtTest::far)
        .test("NONE without an image", Promise13AtTest::withoutOne)
        .finish();
  }

  /** Two pages at 8192, one at 20480; behind it, at 24576, the page at END, and at 28672 the stack. */
  private static ImageGate gate() {
    ImageGate gate = new ImageFile(4300).headers(2).pattern(116, 4184).number(4299, 1, 255)
        .part(0, 116, 8192, 4097, 4097, 7).part(1, 4299, 20480, 1, 1, 7).inGate();
    gate.load(32);
    return gate;
  }

  private static void each(Check check, int[][] places) {
    ImageGate gate = gate();
    for (int[] place : places) {
      check.due("at(" + place[0] + ")", gate.at(place[0]), place[1]);
    }
  }

  private static void bytes(Check check) {
    each(check, new int[][] {{8193, 2}, {8441, 250}, {8442, 1}, {20480, 255}, {20481, 0}, {12289, 0}});
  }

  private static void pageEdges(Check check) {
    each(check, new int[][] {{8192, 1}, {12287, 96}, {12288, 97}, {16383, 0}, {20480, 255}, {24575, 0}, {24576, 0},
      {28671, 0}, {28672, 0}, {32767, 0}});
  }

  private static void notThere(Check check) {
    each(check, new int[][] {{0, -1}, {4095, -1}, {4096, -1}, {8191, -1}, {16384, -1}, {20479, -1}, {32768, -1},
      {36864, -1}, {40960, -1}});
  }

  private static void far(Check check) {
    ImageGate gate = gate();
    ImageGate low = new ImageFile(52).inGate();
    check.loaded("an image from 0 on", low, 32, 2);
    ImageGate high = check.loaded("an image up to 2^30", ImageFile.onePart()
        .field(0, ImageFile.ADDRESS, ImageFile.HIGHEST - 4096), 3);
    for (int a : FAR) {
      check.due("at(" + a + ")", gate.at(a), ImageGate.NONE);
      check.due("at(" + a + ") of a low image", low.at(a), ImageGate.NONE);
      check.due("at(" + a + ") of a high image", high.at(a), ImageGate.NONE);
    }
    check.due("the last byte below 2^30", high.at((1 << 30) - 1), 0);
  }

  private static void withoutOne(Check check) {
    ImageGate gate = ImageFile.onePart().inGate();
    int[] addresses = {0, 4096, 8192, 12288, 16383};
    for (int a : addresses) {
      check.due("at(" + a + ") without a load", gate.at(a), ImageGate.NONE);
    }
    check.refused("too few pages", gate, 2, 5);
    for (int a : addresses) {
      check.due("at(" + a + ") after a refused load", gate.at(a), ImageGate.NONE);
    }
  }
}
