/** n bytes from k on, the lowest first, become v; false if not all are there, or n is not 1, 2 or 4. */
public final class Promise05PutTest {
  public static void main(String[] args) {
    Check check = new Check();
    ImageFile file = new ImageFile(104).headers(1).part(0, 84, 0, 20, 20, 4).pattern(84, 20);
    ImageGate gate = file.inGate();
    check.yes("put 4", gate.put(84, 4, 0x81A2C3E4));
    check.yes("put 2", gate.put(89, 2, 0x7FFF1234));
    check.yes("put 1", gate.put(93, 1, -2));
    check.yes("put 4 at the end", gate.put(100, 4, -1));
    int[] wrongCounts = {0, 3, 5, 8, -1, -4, Integer.MAX_VALUE, Integer.MIN_VALUE};
    for (int n : wrongCounts) {
      check.no("put(95, " + n + ", 0)", gate.put(95, n, 0));
    }
    int[] wrongPlaces = {104, 105, 65536, -1, -4, Integer.MAX_VALUE, Integer.MAX_VALUE - 1, Integer.MIN_VALUE};
    for (int k : wrongPlaces) {
      check.no("put(" + k + ", 1, 0)", gate.put(k, 1, 0));
      check.no("put(" + k + ", 2, 0)", gate.put(k, 2, 0));
      check.no("put(" + k + ", 4, 0)", gate.put(k, 4, 0));
    }
    check.no("put(101, 4, 0)", gate.put(101, 4, 0));
    check.no("put(103, 2, 0)", gate.put(103, 2, 0));
    check.due("length()", gate.length(), 104);
    check.loaded("after put", gate, 32, 3);
    int[] want = {0xE4, 0xC3, 0xA2, 0x81, 5, 0x34, 0x12, 8, 9, 254, 11, 12, 13, 14, 15, 16, 255, 255, 255, 255, 0};
    for (int i = 0; i < want.length; i++) {
      check.due("at(" + i + ")", gate.at(i), want[i]);
    }
    check.yes("put 2 at the end", gate.put(102, 2, 0));
    check.yes("put 1 at the end", gate.put(103, 1, 0));
    check.finish();
  }
}
