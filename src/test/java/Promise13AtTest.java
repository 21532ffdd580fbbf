/** The byte at an address of the image; NONE if its page is not there. */
public final class Promise13AtTest {
  private static final int[] FAR = {-1, -4096, Integer.MIN_VALUE, Integer.MIN_VALUE + 8192, Integer.MAX_VALUE, 1 << 30};

  public static void main(String[] args) {
    Check check = new Check();
    ImageFile file = new ImageFile(4300).headers(2).pattern(116, 4184)
        .part(0, 116, 8192, 4097, 4097, 7).part(1, 4299, 20480, 1, 1, 7);
    ImageGate gate = file.number(4299, 1, 255).inGate();
    check.due("at(8192) before a load", gate.at(8192), -1);
    check.loaded("two parts", gate, 32, 5);
    int[][] want = {{0, -1}, {8191, -1}, {8192, 1}, {8193, 2}, {8441, 250}, {8442, 1}, {12287, 96}, {12288, 97},
      {12289, 0}, {16383, 0}, {16384, -1}, {20479, -1}, {20480, 255}, {20481, 0}, {24575, 0}, {24576, 0},
      {28671, 0}, {28672, 0}, {32767, 0}, {32768, -1}, {40960, -1}};
    for (int[] w : want) {
      check.due("at(" + w[0] + ")", gate.at(w[0]), w[1]);
    }
    far(check, gate);
    check.loaded("no part", loadNoPart(gate), 32, 2);
    check.due("at(8192) of another image", gate.at(8192), -1);
    check.due("at(8191) of another image", gate.at(8191), 0);
    far(check, gate);
    check.finish();
  }

  private static ImageGate loadNoPart(ImageGate gate) {
    new ImageFile(52).giveTo(gate);
    return gate;
  }

  private static void far(Check check, ImageGate gate) {
    for (int a : FAR) {
      check.due("at(" + a + ")", gate.at(a), -1);
    }
  }
}
