/** Twenty bytes, the highest of each int first; nothing changes if there is no room. */
public final class Promise02FeedTest {
  public static void main(String[] args) {
    Check check = new Check();
    order(check);
    room(check);
    check.finish();
  }

  private static void order(Check check) {
    ImageFile file = new ImageFile(52 + 32 + 40).headers(1).part(0, 84, 0, 40, 40, 4);
    ImageGate gate = file.inGate();
    check.yes("end(84)", gate.end(84));
    check.yes("feed", gate.feed(0x01020384, 0x05060708, 0x090A0B0C, 0x0D0E0F10, 0x111213FE));
    check.due("length()", gate.length(), 104);
    check.yes("feed", gate.feed(-1, 0, 0x7F000000, Integer.MIN_VALUE, 3));
    check.due("length()", gate.length(), 124);
    check.loaded("fed", gate, 32, 3);
    int[] want = {1, 2, 3, 0x84, 5, 6, 7, 8, 9, 10, 11, 12, 13, 14, 15, 16, 17, 18, 19, 0xFE,
      255, 255, 255, 255, 0, 0, 0, 0, 127, 0, 0, 0, 128, 0, 0, 0, 0, 0, 0, 3};
    for (int i = 0; i < want.length; i++) {
      check.due("at(" + i + ")", gate.at(i), want[i]);
    }
  }

  /** More calls than an object is promised for: the limit can't be reached with fewer. */
  private static void room(Check check) {
    ImageFile file = new ImageFile(65520).headers(1).part(0, 65500, 0, 36, 36, 4);
    ImageGate gate = file.inGate();
    check.no("feed into 16 bytes", gate.feed(1, 1, 1, 1, 1));
    check.due("length()", gate.length(), 65520);
    check.refused("nothing came", gate, 32, 4);
    gate.end(65517);
    check.no("feed into 19 bytes", gate.feed(1, 1, 1, 1, 1));
    check.due("length()", gate.length(), 65517);
    gate.end(65516);
    check.yes("feed into 20 bytes", gate.feed(1, 1, 1, 1, 0x01010109));
    check.due("length()", gate.length(), 65536);
    check.no("feed into none", gate.feed(1, 1, 1, 1, 1));
    check.loaded("full", gate, 32, 3);
    check.due("at(35)", gate.at(35), 9);
    check.due("at(36)", gate.at(36), 0);
  }
}
