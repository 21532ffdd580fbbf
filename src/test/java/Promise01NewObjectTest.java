/** No file, no arguments, no image; and two objects share nothing. */
public final class Promise01NewObjectTest {
  public static void main(String[] args) {
    Check check = new Check();
    ImageGate used = new ImageFile(52).entry(7).inGate();
    used.argument();
    used.letters(0x4142L);
    check.loaded("the other object", used, 32, 2);

    ImageGate gate = new ImageGate();
    check.due("NONE", ImageGate.NONE, -1);
    check.due("length()", gate.length(), 0);
    check.due("why()", gate.why(), 0);
    for (int what = 0; what <= 4; what++) {
      check.due("about(" + what + ")", gate.about(what), 0);
    }
    check.due("at(0)", gate.at(0), -1);
    check.due("flags(0)", gate.flags(0), -1);
    check.no("set(0, 0)", gate.set(0, 0));
    check.no("put(0, 1, 0)", gate.put(0, 1, 0));
    check.no("letters(1)", gate.letters(1));
    check.refused("an empty file", gate, 32, 1);

    new ImageFile(52).giveTo(gate);
    check.loaded("no arguments", gate, 2, 2);
    check.due("about(3)", gate.about(3), 0);
    check.due("the other object's entry", used.about(0), 7);
    check.due("the other object's arguments", used.about(3), 1);
    check.finish();
  }
}
