/** The flags of the page that has an address; NONE if it is not there. */
public final class Promise14FlagsTest {
  public static void main(String[] args) {
    Check check = new Check();
    ImageFile file = new ImageFile(308).headers(8);
    int[] want = {8, 12, 10, 14, 9, 13, 11, 15};
    for (int i = 0; i < 8; i++) {
      file.part(i, 0, i * 12288, 0, 4097, i);
    }
    ImageGate gate = file.inGate();
    check.due("flags(0) before a load", gate.flags(0), -1);
    check.loaded("eight parts", gate, 32, 18);
    for (int i = 0; i < 8; i++) {
      int a = i * 12288;
      check.due("flags of part " + i, gate.flags(a), want[i]);
      check.due("its last byte's", gate.flags(a + 8191), want[i]);
      check.due("behind it", gate.flags(a + 8192), i < 7 ? -1 : 3);
    }
    int end = 7 * 12288 + 8192;
    check.due("the last of the page at END", gate.flags(end + 4095), 3);
    check.due("the stack's first", gate.flags(end + 4096), 11);
    check.due("the stack's last", gate.flags(end + 8191), 11);
    check.due("behind the stack", gate.flags(end + 8192), -1);
    int[] far = {-1, -4096, Integer.MIN_VALUE, Integer.MAX_VALUE, 1 << 30};
    for (int a : far) {
      check.due("flags(" + a + ")", gate.flags(a), -1);
    }
    gate = new ImageFile(84).headers(1).part(0, 0, 0, 0, 1, 0xFFFFFFF8L).inGate();
    check.loaded("flags that mean nothing", gate, 3, 3);
    check.due("flags(0)", gate.flags(0), 8);
    gate.put(76, 4, -1);
    check.due("flags(0) before the load", gate.flags(0), 8);
    check.loaded("all flags", gate, 3, 3);
    check.due("flags(0)", gate.flags(0), 15);
    check.finish();
  }
}
