/** The file, with the arguments, becomes the image, if it is one and wants no more than so many pages. */
public final class Promise10LoadTest {
  private static final int SPAN = ImageFile.HEADERS + ImageFile.SPAN;

  public static void main(String[] args) {
    new Sentences("Promise 10, load")
        .test("the file, with the arguments, becomes the image", Promise10LoadTest::becomesTheImage)
        .test("how many pages", Promise10LoadTest::howMany)
        .test("if it wants no more than so many pages", Promise10LoadTest::noMore)
        .test("pages less than 0 are 0", Promise10LoadTest::less)
        .test("pages more than 32 are 32", Promise10LoadTest::more)
        .test("NONE if it is refused: each reason", Promise10LoadTest::refusedIsNone)
        .test("the image before stays, whatever the reason", Promise10LoadTest::imageStays)
        .test("nothing of the image before is left by one that is not refused", Promise10LoadTest::nothingLeft)
        .test("file and arguments stay after a load", Promise10LoadTest::fileStays)
        .test("file and arguments stay after a refused load", Promise10LoadTest::fileStaysRefused)
        .test("what changes them later does not change the image", Promise10LoadTest::imageIsApart)
        .finish();
  }

  private static ImageGate ofPages(int pages) {
    return new ImageFile(84).headers(1).part(0, 0, 0, 0, (pages - 2) * 4096, 4).inGate();
  }

  private static void becomesTheImage(Check check) {
    ImageFile file = new ImageFile(6000).entry(4100).headers(3).pattern(148, 5852)
        .part(0, 148, 4096, 5000, 5001, 5).part(1, 1000, 5 * 4096, 4096, 4096, 6).part(2, 6000, 9 * 4096, 0, 1, 0);
    ImageGate gate = file.inGate();
    Texts.add(gate, "ls");
    check.loaded("three parts", gate, 32, 6);
    check.about("three parts", gate, 4100, 12 * 4096 - 16, 12 * 4096, 1, 6);
    int[] flags = {-1, 13, 13, -1, -1, 11, -1, -1, -1, 8, 3, 11, -1};
    for (int page = 0; page < flags.length; page++) {
      check.due("flags of page " + page, gate.flags(4096 * page), flags[page]);
    }
    int[] inPart = {0, 1, 249, 250, 4095, 4096, 4999};
    for (int i : inPart) {
      check.due("byte " + i + " of the first part", gate.at(4096 + i), ImageFile.patternAt(i));
    }
    check.bytes("behind the first part's", gate, 4096 + 5000, 0, 0, 0);
    check.due("the second part's first byte", gate.at(5 * 4096), ImageFile.patternAt(852));
    check.due("the second part's last byte", gate.at(6 * 4096 - 1), ImageFile.patternAt(852 + 4095));
    check.bytes("the third part has none", gate, 9 * 4096, 0, 0, 0);
    check.bytes("the argument", gate, 12 * 4096 - 4, 'l', 's', 0, 0);
  }

  private static void howMany(Check check) {
    for (int pages = 3; pages <= 32; pages++) {
      check.loaded(pages + " pages", ofPages(pages), 32, pages);
    }
    check.loaded("no part", new ImageFile(52), 2);
    check.loaded("two parts", ImageFile.twoParts(), 5);
    check.loaded("two parts and a gap", ImageFile.twoParts().field(1, ImageFile.ADDRESS, 1 << 20), 5);
  }

  private static void noMore(Check check) {
    int[] wants = {2, 3, 31, 32};
    for (int want : wants) {
      ImageGate gate = want == 2 ? new ImageFile(52).inGate() : ofPages(want);
      check.refused(want + " pages", gate, 0, 5);
      check.refused(want + " pages", gate, 1, 5);
      check.refused(want + " pages", gate, want - 1, 5);
      check.loaded(want + " pages", gate, want, want);
      check.loaded(want + " pages", gate, 32, want);
    }
  }

  private static void less(Check check) {
    ImageGate gate = new ImageFile(52).inGate();
    int[] counts = {0, -1, -2, -32, -33, Integer.MIN_VALUE, Integer.MIN_VALUE + 2};
    for (int pages : counts) {
      check.refused("2 pages", gate, pages, 5);
    }
  }

  private static void more(Check check) {
    ImageGate gate = ofPages(32);
    int[] counts = {33, 34, 64, 65536, Integer.MAX_VALUE};
    for (int pages : counts) {
      check.loaded("32 pages", gate, pages, 32);
    }
    gate.put(SPAN, 4, 30 * 4096 + 1);
    check.refused("33 pages", gate, 32, 5);
    for (int pages : counts) {
      check.refused("33 pages", gate, pages, 5);
    }
    gate.put(SPAN, 4, 62 * 4096);
    check.refused("64 pages", gate, 64, 5);
  }

  /** A file for each reason from 1 to 5; for 6 the arguments are to blame. */
  private static ImageFile spoilt(int why) {
    ImageFile file = ImageFile.onePart().entry(99).number(84, 4, 0);
    switch (why) {
      case 1:
        return file.number(6, 1, 2);
      case 2:
        return file.number(20, 4, 2);
      case 3:
        return file.begin(69);
      case 4:
        return file.field(0, ImageFile.ADDRESS, 4097);
      case 5:
        return file.field(0, ImageFile.SPAN, 31 * 4096);
      default:
        return file;
    }
  }

  /** For 6 more calls than an object is promised for: 512 calls can't bring so many letters and a file. */
  private static void spoil(ImageGate gate, int why) {
    spoilt(why).giveTo(gate);
    if (why == 6) {
      gate.forget();
      Texts.add(gate, 32, 127);
    }
  }

  private static void refusedIsNone(Check check) {
    for (int why = 1; why <= 6; why++) {
      ImageGate gate = new ImageGate();
      spoil(gate, why);
      check.refused("reason " + why, gate, 32, why);
      check.about("reason " + why, gate, 0, 0, 0, 0, 0);
      int[] pages = {0, 4096, 8192, 12288};
      for (int a : pages) {
        check.due("reason " + why + ": at(" + a + ")", gate.at(a), ImageGate.NONE);
        check.due("reason " + why + ": flags(" + a + ")", gate.flags(a), ImageGate.NONE);
      }
    }
  }

  private static void imageStays(Check check) {
    for (int why = 1; why <= 6; why++) {
      ImageGate gate = ImageFile.onePart().entry(11).field(0, ImageFile.ADDRESS, 8192)
          .field(0, ImageFile.FLAGS, 1).field(0, ImageFile.SPAN, 4097).inGate();
      Texts.add(gate, "ab");
      check.loaded("the image before", gate, 32, 4);
      spoil(gate, why);
      if (why < 6) {
        gate.argument();
      }
      check.refused("reason " + why, gate, 32, why);
      String before = "the image before, after reason " + why;
      check.about(before, gate, 11, 24576 - 16, 24576, 1, 4);
      int[] flags = {-1, -1, 12, 12, 3, 11, -1};
      for (int page = 0; page < flags.length; page++) {
        check.due(before + ": flags of page " + page, gate.flags(4096 * page), flags[page]);
        boolean there = gate.at(4096 * page + 4095) != ImageGate.NONE;
        check.due(before + ": page " + page + " is there", there ? 1 : 0, flags[page] < 0 ? 0 : 1);
      }
      check.bytes(before, gate, 8191, -1, 1, 2, 3, 4, 5, 6, 7, 8, 9, 10, 11, 12, 13, 14, 15, 16, 0);
      check.bytes(before, gate, 24576 - 16, 0xFC, 0x5F, 0, 0, 0, 0, 0, 0, 0, 0, 0, 0, 'a', 'b', 0, 0, -1);
    }
  }

  private static void nothingLeft(Check check) {
    ImageGate gate = new ImageFile(4200).entry(7).headers(1).part(0, 84, 0, 4116, 8192, 7).pattern(84, 4116).inGate();
    Texts.add(gate, 127);
    check.loaded("the old image", gate, 32, 4);
    gate.forget();
    new ImageFile(100).headers(1).part(0, 84, 0, 3, 8192, 4).pattern(84, 16).giveTo(gate);
    check.loaded("the new image", gate, 32, 4);
    check.about("the new image", gate, 0, 16368, 16384, 0, 4);
    check.bytes("the new image", gate, 0, 1, 2, 3, 0, 0);
    int[] zeros = {100, 4095, 4096, 4110, 4115, 8191, 8192, 16256, 16260, 16368, 16383};
    for (int a : zeros) {
      check.due("the new image: at(" + a + ")", gate.at(a), 0);
    }
    check.due("flags(0)", gate.flags(0), 9);
    new ImageFile(52).giveTo(gate);
    check.loaded("a smaller image", gate, 32, 2);
    check.about("a smaller image", gate, 0, 8176, 8192, 0, 2);
    int[][] small = {{0, 3}, {4096, 11}, {8191, 11}, {8192, -1}, {12288, -1}, {16383, -1}};
    for (int[] place : small) {
      check.due("a smaller image: at(" + place[0] + ")", gate.at(place[0]), place[1] < 0 ? -1 : 0);
      check.due("a smaller image: flags(" + place[0] + ")", gate.flags(place[0]), place[1]);
    }
  }

  private static void fileStays(Check check) {
    ImageGate gate = ImageFile.onePart().inGate();
    Texts.add(gate, "a");
    check.loaded("first", gate, 32, 3);
    check.due("length()", gate.length(), 100);
    check.yes("letters of the same argument", gate.letters('b'));
    check.yes("a byte of the same file", gate.set(85, 200));
    check.loaded("second", gate, 32, 3);
    check.due("about(3)", gate.about(3), 1);
    check.bytes("the part", gate, 4096, 1, 200, 3);
    check.bytes("the argument", gate, 16380, 'a', 'b', 0, 0);
  }

  private static void fileStaysRefused(Check check) {
    ImageGate gate = ImageFile.onePart().inGate();
    Texts.add(gate, "a");
    check.refused("too few pages", gate, 2, 5);
    gate.set(6, 0);
    check.refused("no image", gate, 32, 1);
    gate.set(6, 1);
    check.due("length()", gate.length(), 100);
    check.yes("letters of the same argument", gate.letters('b'));
    check.loaded("the same file", gate, 32, 3);
    check.due("about(3)", gate.about(3), 1);
    check.bytes("the part", gate, 4096, 1, 2, 3);
    check.bytes("the argument", gate, 16380, 'a', 'b', 0, 0);
  }

  private static void imageIsApart(Check check) {
    ImageGate gate = ImageFile.onePart().entry(5).inGate();
    Texts.add(gate, "a");
    check.loaded("the image", gate, 32, 3);
    gate.letters('b');
    gate.argument();
    gate.set(84, 200);
    gate.put(24, 4, 6);
    gate.end(0);
    gate.feed(-1, -1, -1, -1, -1);
    check.about("the image", gate, 5, 16368, 16384, 1, 3);
    check.bytes("its part", gate, 4096, 1, 2, 3);
    check.bytes("its argument", gate, 16380, 'a', 0, 0, 0);
    gate.forget();
    check.due("its arguments", gate.about(3), 1);
    check.due("why()", gate.why(), 0);
  }
}
