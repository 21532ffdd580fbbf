/** The file has its first n bytes alone; false if it has less, or n is below 0. */
public final class Promise03EndTest {
  public static void main(String[] args) {
    Check check = new Check();
    ImageGate gate = new ImageGate();
    check.yes("end(0) of none", gate.end(0));
    check.no("end(1) of none", gate.end(1));
    check.no("end(-1) of none", gate.end(-1));
    gate = new ImageFile(60).inGate();
    check.no("end(61)", gate.end(61));
    check.no("end(max)", gate.end(Integer.MAX_VALUE));
    check.no("end(-1)", gate.end(-1));
    check.no("end(min)", gate.end(Integer.MIN_VALUE));
    check.due("length()", gate.length(), 60);
    check.yes("end(60)", gate.end(60));
    check.due("length()", gate.length(), 60);
    check.yes("end(52)", gate.end(52));
    check.due("length()", gate.length(), 52);
    check.loaded("52 bytes", gate, 2, 2);
    check.no("end(60), cut before", gate.end(60));
    check.no("set behind the end", gate.set(52, 1));
    check.yes("end(51)", gate.end(51));
    check.refused("51 bytes", gate, 2, 1);
    check.yes("feed goes on at the end", gate.feed(0x00AABBCC, 0, 0, 0, 0));
    check.due("length()", gate.length(), 71);
    check.loaded("71 bytes", gate, 2, 2);
    check.yes("end(0)", gate.end(0));
    check.due("length()", gate.length(), 0);
    check.finish();
  }
}
