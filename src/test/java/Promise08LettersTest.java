/** The latest argument gets the bytes of w that are not 0, from the highest on. */
public final class Promise08LettersTest {
  public static void main(String[] args) {
    Check check = new Check();
    bytes(check);
    limit(check);
    latestAlone(check);
    check.finish();
  }

  private static void bytes(Check check) {
    ImageGate gate = new ImageFile(52).inGate();
    check.no("letters without an argument", gate.letters(0x41));
    check.no("letters(0) without an argument", gate.letters(0));
    gate.argument();
    check.yes("letters", gate.letters(0xFF00414200008001L));
    check.yes("letters(0)", gate.letters(0));
    check.yes("letters", gate.letters(0x4300000000000000L));
    check.yes("letters", gate.letters(0x44L));
    check.loaded("seven letters", gate, 2, 2);
    int[] want = {0xFF, 0x41, 0x42, 0x80, 1, 0x43, 0x44, 0};
    for (int i = 0; i < want.length; i++) {
      check.due("letter " + i, gate.at(8184 + i), want[i]);
    }
  }

  private static void limit(Check check) {
    ImageGate gate = new ImageFile(52).inGate();
    gate.argument();
    for (int i = 0; i < 15; i++) {
      check.yes("eight letters", gate.letters(-1L));
    }
    check.no("128 letters", gate.letters(0x0102030405060708L));
    check.no("128 letters again", gate.letters(Long.MIN_VALUE | 0x0002030405060708L | 0x0001000000000000L));
    check.yes("127 letters", gate.letters(0x0102030004050607L));
    check.yes("none more", gate.letters(0));
    check.no("one more", gate.letters(1));
    check.no("one more", gate.letters(Long.MIN_VALUE));
    check.loaded("127 letters", gate, 2, 2);
    for (int i = 0; i < 128; i++) {
      check.due("letter " + i, gate.at(8064 + i), i < 120 ? 255 : (i - 119) % 8);
    }
    check.due("about(1)", gate.about(1), 8048);
  }

  private static void latestAlone(Check check) {
    ImageGate gate = new ImageFile(52).inGate();
    gate.argument();
    gate.letters(0x6161);
    gate.argument();
    gate.letters(0x626262);
    check.loaded("two", gate, 2, 2);
    check.due("at(8188)", gate.at(8188), 0x61);
    check.due("at(8190)", gate.at(8190), 0);
    check.due("at(8186)", gate.at(8186), 0x62);
    check.due("at(8187)", gate.at(8187), 0);
    gate.forget();
    check.no("letters after forget", gate.letters(0x61));
  }
}
