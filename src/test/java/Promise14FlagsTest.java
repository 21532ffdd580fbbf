/** The flags of the page that has an address; NONE if it is not there. */
public final class Promise14FlagsTest {
  public static void main(String[] args) {
    new Sentences("Promise 14, flags")
        .test("the flags of the page that has an address, at its first and its last byte", Promise14FlagsTest::edges)
        .test("NONE if it is not there: in front, between, behind", Promise14FlagsTest::notThere)
        .test("NONE far outside, for addresses below 0 too", Promise14FlagsTest::far)
        .test("NONE without an image", Promise14FlagsTest::withoutOne)
        .test("of the image, not of a file that came later", Promise14FlagsTest::ofTheImage)
        .finish();
  }

  /** Two pages at 8192, one at 20480; behind it, at 24576, the page at END, and at 28672 the stack. */
  private static ImageGate gate() {
    ImageGate gate = new ImageFile(116).headers(2).part(0, 0, 8192, 0, 4097, 5).part(1, 0, 20480, 0, 1, 0).inGate();
    gate.load(32);
    return gate;
  }

  private static void each(Check check, int[][] places) {
    ImageGate gate = gate();
    for (int[] place : places) {
      check.due("flags(" + place[0] + ")", gate.flags(place[0]), place[1]);
    }
  }

  private static void edges(Check check) {
    each(check, new int[][] {{8192, 13}, {8193, 13}, {12287, 13}, {12288, 13}, {16383, 13}, {20480, 8}, {24575, 8},
      {24576, 3}, {28671, 3}, {28672, 11}, {32767, 11}});
  }

  private static void notThere(Check check) {
    each(check, new int[][] {{0, -1}, {4096, -1}, {8191, -1}, {16384, -1}, {18000, -1}, {20479, -1}, {32768, -1},
      {36864, -1}});
  }

  private static void far(Check check) {
    ImageGate gate = gate();
    ImageGate low = check.loaded("an image from 0 on", new ImageFile(52), 2);
    ImageGate high = check.loaded("an image up to 2^30", ImageFile.onePart()
        .field(0, ImageFile.ADDRESS, ImageFile.HIGHEST - 4096), 3);
    int[] addresses = {-1, -4096, Integer.MIN_VALUE, Integer.MIN_VALUE + 8192, Integer.MAX_VALUE, 1 << 30};
    for (int a : addresses) {
      check.due("flags(" + a + ")", gate.flags(a), ImageGate.NONE);
      check.due("flags(" + a + ") of a low image", low.flags(a), ImageGate.NONE);
      check.due("flags(" + a + ") of a high image", high.flags(a), ImageGate.NONE);
    }
    check.due("flags of the last byte below 2^30", high.flags((1 << 30) - 1), 11);
  }

  private static void withoutOne(Check check) {
    ImageGate gate = ImageFile.onePart().inGate();
    int[] addresses = {0, 4096, 8192, 12288, 16383};
    for (int a : addresses) {
      check.due("flags(" + a + ") without a load", gate.flags(a), ImageGate.NONE);
    }
    check.refused("too few pages", gate, 2, 5);
    for (int a : addresses) {
      check.due("flags(" + a + ") after a refused load", gate.flags(a), ImageGate.NONE);
    }
  }

  private static void ofTheImage(Check check) {
    ImageGate gate = ImageFile.onePart().inGate();
    check.loaded("one part", gate, 32, 3);
    gate.put(ImageFile.HEADERS + ImageFile.FLAGS, 4, 7);
    check.due("flags(4096) before the next load", gate.flags(4096), 9);
    check.loaded("the next load", gate, 32, 3);
    check.due("flags(4096)", gate.flags(4096), 15);
  }
}
