/** ENTRY, SP, SIZE, arguments and pages of the image; 0 without one, NONE for another what. */
public final class Promise12AboutTest {
  public static void main(String[] args) {
    Check check = new Check();
    ImageGate gate = new ImageGate();
    others(check, gate);
    about(check, gate, 0, 0, 0, 0, 0);
    gate.load(32);
    about(check, gate, 0, 0, 0, 0, 0);

    new ImageFile(84).entry(-2).headers(1).part(0, 0, 8192, 0, 4097, 4).giveTo(gate);
    check.loaded("one part", gate, 32, 4);
    about(check, gate, -2, 24560, 24576, 0, 4);
    others(check, gate);
    gate.argument();
    gate.argument();
    gate.letters(0x6162636465666768L);
    about(check, gate, -2, 24560, 24576, 0, 4);
    check.loaded("two arguments", gate, 32, 4);
    about(check, gate, -2, 24544, 24576, 2, 4);
    gate.forget();
    gate.end(0);
    gate.load(32);
    about(check, gate, -2, 24544, 24576, 2, 4);

    new ImageFile(84).entry(Integer.MIN_VALUE).headers(1).part(0, 0, 1073733632L - 4096, 0, 4096, 4).giveTo(gate);
    check.loaded("the highest", gate, 3, 3);
    about(check, gate, Integer.MIN_VALUE, 1073741808, 1073741824, 0, 3);
    new ImageFile(52).entry(0x04030201).giveTo(gate);
    check.loaded("no part", gate, 3, 2);
    about(check, gate, 0x04030201, 8176, 8192, 0, 2);
    check.finish();
  }

  private static void about(Check check, ImageGate gate, int... want) {
    for (int what = 0; what < want.length; what++) {
      check.due("about(" + what + ")", gate.about(what), want[what]);
    }
  }

  private static void others(Check check, ImageGate gate) {
    int[] whats = {-1, 5, 6, 100, Integer.MAX_VALUE, Integer.MIN_VALUE};
    for (int what : whats) {
      check.due("about(" + what + ")", gate.about(what), ImageGate.NONE);
    }
  }
}
