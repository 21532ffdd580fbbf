/** No arguments any more; file and image stay. */
public final class Promise09ForgetTest {
  public static void main(String[] args) {
    Check check = new Check();
    ImageGate gate = new ImageFile(52).inGate();
    gate.forget();
    check.loaded("none to forget", gate, 2, 2);
    for (int i = 0; i < 32; i++) {
      gate.argument();
      gate.letters(0x7A7A7A);
    }
    check.loaded("32", gate, 2, 2);
    gate.forget();
    check.due("the image's arguments", gate.about(3), 32);
    check.due("the image's letters", gate.at(8188), 0x7A);
    check.due("length()", gate.length(), 52);
    check.no("letters", gate.letters(1));
    check.loaded("forgotten", gate, 2, 2);
    check.due("about(3)", gate.about(3), 0);
    check.due("about(1)", gate.about(1), 8176);
    check.due("at(8188)", gate.at(8188), 0);
    for (int i = 0; i < 32; i++) {
      check.yes("argument", gate.argument());
    }
    check.no("argument", gate.argument());
    check.finish();
  }
}
