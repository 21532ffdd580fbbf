/** Byte k of the file becomes b; false if there is none such, or b is not 0 .. 255. */
public final class Promise04SetTest {
  public static void main(String[] args) {
    Check check = new Check();
    ImageFile file = new ImageFile(94).headers(1).part(0, 84, 0, 10, 10, 4).pattern(84, 10);
    ImageGate gate = file.inGate();
    check.yes("set(84, 0)", gate.set(84, 0));
    check.yes("set(85, 255)", gate.set(85, 255));
    check.yes("set(86, 128)", gate.set(86, 128));
    check.yes("set(93, 77)", gate.set(93, 77));
    check.no("set(87, 256)", gate.set(87, 256));
    check.no("set(87, -1)", gate.set(87, -1));
    check.no("set(87, max)", gate.set(87, Integer.MAX_VALUE));
    check.no("set(87, min)", gate.set(87, Integer.MIN_VALUE));
    check.no("set(94, 1)", gate.set(94, 1));
    check.no("set(-1, 1)", gate.set(-1, 1));
    check.no("set(65536, 1)", gate.set(65536, 1));
    check.no("set(max, 1)", gate.set(Integer.MAX_VALUE, 1));
    check.no("set(min, 1)", gate.set(Integer.MIN_VALUE, 1));
    check.due("length()", gate.length(), 94);
    check.loaded("after set", gate, 32, 3);
    int[] want = {0, 255, 128, 4, 5, 6, 7, 8, 9, 77, 0};
    for (int i = 0; i < want.length; i++) {
      check.due("at(" + i + ")", gate.at(i), want[i]);
    }
    check.yes("set(0, 126)", gate.set(0, 126));
    check.refused("no first byte", gate, 32, 1);
    check.yes("set(0, 127)", gate.set(0, 127));
    check.loaded("the first byte again", gate, 32, 3);
    check.finish();
  }
}
