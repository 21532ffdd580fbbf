/** How many bytes the file has, whatever other calls do. */
public final class Promise06LengthTest {
  public static void main(String[] args) {
    Check check = new Check();
    ImageGate gate = new ImageGate();
    check.due("length() of none", gate.length(), 0);
    for (int i = 1; i <= 100; i++) {
      gate.feed(0, 0, 0, 0, 0);
      check.due("length() after " + i + " feeds", gate.length(), 20 * i);
    }
    gate.end(1999);
    check.due("length() after end(1999)", gate.length(), 1999);
    gate.set(5, 5);
    gate.put(1995, 4, -1);
    gate.argument();
    gate.letters(-1);
    gate.load(32);
    gate.forget();
    check.due("length() after other calls", gate.length(), 1999);
    new ImageFile(77).giveTo(gate);
    check.loaded("77 bytes", gate, 32, 2);
    check.due("length() after load", gate.length(), 77);
    check.finish();
  }
}
