/** Twenty bytes come to the file, the highest of each int first: true; false, changing nothing, without room. */
public final class Promise02FeedTest {
  public static void main(String[] args) {
    new Sentences("Promise 2, feed")
        .test("twenty bytes come to the file: true", Promise02FeedTest::twenty)
        .test("the highest of each int first", Promise02FeedTest::order)
        .test("they come behind what the file has, at its end", Promise02FeedTest::behind)
        .test("false if there is no room, true if there is just room", Promise02FeedTest::room)
        .test("changing nothing if there is no room", Promise02FeedTest::unchanged)
        .finish();
  }

  /** One part with all that the file has from 84 on, up to 60 bytes. */
  private static ImageGate gate() {
    return new ImageFile(144).headers(1).part(0, 84, 0, 60, 60, 4).pattern(84, 60).inGate();
  }

  private static void twenty(Check check) {
    ImageGate gate = new ImageGate();
    check.yes("feed", gate.feed(0, 0, 0, 0, 0));
    check.due("length()", gate.length(), 20);
    check.yes("feed", gate.feed(-1, Integer.MIN_VALUE, Integer.MAX_VALUE, 1, -2));
    check.due("length()", gate.length(), 40);
  }

  private static void order(Check check) {
    ImageGate gate = gate();
    gate.end(84);
    check.yes("feed", gate.feed(0x01020384, 0x05060708, 0x090A0B0C, 0x0D0E0F10, 0x111213FE));
    check.yes("feed", gate.feed(-1, 0, 0x7F000000, Integer.MIN_VALUE, 3));
    check.yes("feed", gate.feed(-2, 0x00FF00FF, 0xFF00FF00, 0x80, 0x8000));
    check.loaded("fed", gate, 32, 3);
    check.bytes("first", gate, 0, 1, 2, 3, 0x84, 5, 6, 7, 8, 9, 10, 11, 12, 13, 14, 15, 16, 17, 18, 19, 0xFE);
    check.bytes("second", gate, 20, 255, 255, 255, 255, 0, 0, 0, 0, 127, 0, 0, 0, 128, 0, 0, 0, 0, 0, 0, 3);
    check.bytes("third", gate, 40, 255, 255, 255, 254, 0, 255, 0, 255, 255, 0, 255, 0, 0, 0, 0, 128, 0, 0, 128, 0, 0);
  }

  private static void behind(Check check) {
    ImageGate gate = gate();
    gate.end(87);
    check.yes("feed", gate.feed(0x64656667, 0, 0, 0, 0x68696A6B));
    check.due("length()", gate.length(), 107);
    gate.put(ImageFile.HEADERS + ImageFile.BYTES, 4, 23);
    check.loaded("fed at 87", gate, 32, 3);
    check.bytes("old and new", gate, 0, 1, 2, 3, 100, 101, 102, 103, 0);
    check.bytes("the last", gate, 19, 104, 105, 106, 107, 0);
  }

  /** More calls than an object is promised for: 512 calls can't fill a file of 65,536 bytes. */
  private static ImageGate nearlyFull() {
    return new ImageFile(65520).headers(1).part(0, 65500, 0, 36, 36, 4).pattern(65500, 20).inGate();
  }

  private static void room(Check check) {
    ImageGate gate = nearlyFull();
    check.no("feed into 16 bytes", gate.feed(1, 1, 1, 1, 1));
    check.yes("end(65517)", gate.end(65517));
    check.no("feed into 19 bytes", gate.feed(1, 1, 1, 1, 1));
    check.yes("end(65516)", gate.end(65516));
    check.yes("feed into 20 bytes", gate.feed(1, 1, 1, 1, 0x01010109));
    check.due("length()", gate.length(), 65536);
    check.no("feed into none", gate.feed(1, 1, 1, 1, 1));
    check.yes("end(0)", gate.end(0));
    check.yes("feed into all", gate.feed(1, 1, 1, 1, 1));
  }

  private static void unchanged(Check check) {
    ImageGate gate = nearlyFull();
    gate.feed(-1, -1, -1, -1, -1);
    check.due("length()", gate.length(), 65520);
    check.refused("nothing came", gate, 32, 4);
    gate.put(ImageFile.HEADERS + ImageFile.BYTES, 4, 20);
    check.loaded("what was there", gate, 32, 3);
    for (int i = 0; i < 20; i++) {
      check.due("at(" + i + ")", gate.at(i), 1 + i);
    }
    gate.end(65516);
    gate.feed(0, 0, 0, 0, 0);
    gate.feed(-1, -1, -1, -1, -1);
    check.due("length() of a full file", gate.length(), 65536);
    gate.put(ImageFile.HEADERS + ImageFile.BYTES, 4, 36);
    check.loaded("what a full file has", gate, 32, 3);
    check.due("its last byte", gate.at(35), 0);
  }
}
