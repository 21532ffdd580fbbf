/** One argument more, empty; false if there are 32. */
public final class Promise07ArgumentTest {
  public static void main(String[] args) {
    Check check = new Check();
    ImageGate gate = new ImageFile(52).inGate();
    for (int i = 1; i <= 32; i++) {
      check.yes("argument " + i, gate.argument());
      check.loaded("with " + i, gate, 2, 2);
      check.due("about(3)", gate.about(3), i);
    }
    check.no("argument 33", gate.argument());
    check.no("argument 34", gate.argument());
    check.loaded("with 32", gate, 2, 2);
    check.due("about(3)", gate.about(3), 32);
    check.due("about(1)", gate.about(1), (8192 - 32 * 4 - 33 * 4) / 16 * 16);

    gate.forget();
    gate.argument();
    gate.letters(0x4142434445464748L);
    gate.forget();
    check.yes("argument after forget", gate.argument());
    check.loaded("empty again", gate, 2, 2);
    check.due("at(8188)", gate.at(8188), 0);
    check.due("at(8184)", gate.at(8184), 0);
    check.due("at(8176)", gate.at(8176), 0xFC);
    check.due("at(8177)", gate.at(8177), 0x1F);
    check.finish();
  }
}
