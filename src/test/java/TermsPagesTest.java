/** PAGES, STACK and SIZE. */
public final class TermsPagesTest {
  public static void main(String[] args) {
    new Sentences("Term PAGES")
        .test("they are there from each part's address to its end, and no others", TermsPagesTest::there)
        .test("with its bytes from its address on, page after page", TermsPagesTest::bytes)
        .test("0 behind them", TermsPagesTest::zeros)
        .test("FLAGS: 8, 1 more for 4, 2 for 2, 4 for 1", TermsPagesTest::flags)
        .test("FLAGS of each part alone, all its pages", TermsPagesTest::flagsOfEach)
        .test("at END a page of flags 3, all 0", TermsPagesTest::pageAtEnd)
        .in("Term STACK")
        .test("behind that a page of flags 11", TermsPagesTest::stack)
        .in("Term SIZE")
        .test("the end of the stack", TermsPagesTest::size)
        .finish();
  }

  private static void there(Check check) {
    ImageFile file = new ImageFile(148).headers(3)
        .part(0, 0, 4096, 0, 8192, 4).part(1, 0, 16384, 0, 1, 4).part(2, 0, 20480, 0, 4097, 4);
    ImageGate gate = check.loaded("three parts", file, 7);
    boolean[] there = {false, true, true, false, true, true, true, true, true, false, false};
    for (int page = 0; page < there.length; page++) {
      int[] places = {0, 1, 4095};
      for (int place : places) {
        int a = 4096 * page + place;
        check.due("at(" + a + ") is there", gate.at(a) == ImageGate.NONE ? 0 : 1, there[page] ? 1 : 0);
        check.due("flags(" + a + ") are there", gate.flags(a) == ImageGate.NONE ? 0 : 1, there[page] ? 1 : 0);
      }
    }
  }

  private static void bytes(Check check) {
    ImageFile file = new ImageFile(8400).headers(1).part(0, 85, 4096, 8300, 12288, 4).pattern(85, 8315);
    ImageGate gate = file.inGate();
    check.loaded("three pages", gate, 32, 5);
    int[] places = {0, 1, 4095, 4096, 4097, 8191, 8192, 8193, 8298, 8299};
    for (int i : places) {
      check.due("byte " + i, gate.at(4096 + i), ImageFile.patternAt(i));
    }
    check.due("behind them", gate.at(4096 + 8300), 0);
  }

  private static void zeros(Check check) {
    int[] counts = {0, 1, 4095, 4096, 4097};
    for (int n : counts) {
      ImageFile file = new ImageFile(4300).headers(1).part(0, 84, 0, n, 8193, 4).pattern(84, 4216);
      ImageGate gate = file.inGate();
      check.loaded(n + " bytes", gate, 32, 5);
      if (n > 0) {
        check.due(n + " bytes: the last", gate.at(n - 1), ImageFile.patternAt(n - 1));
      }
      int[] behind = {n, n + 1, n + 2, 4098, 5000, 8191, 8192, 8193, 12287};
      for (int a : behind) {
        check.due(n + " bytes: at(" + a + ")", gate.at(a), 0);
      }
    }
  }

  private static void flags(Check check) {
    int[] want = {8, 12, 10, 14, 9, 13, 11, 15};
    for (int flags = 0; flags < 32; flags++) {
      ImageGate gate = check.loaded("flags " + flags, ImageFile.onePart().field(0, ImageFile.FLAGS, flags), 3);
      check.due("flags(4096) of " + flags, gate.flags(4096), want[flags % 8]);
    }
    for (int bit = 3; bit < 32; bit++) {
      ImageGate gate = check.loaded("bit " + bit, ImageFile.onePart().field(0, ImageFile.FLAGS, 1L << bit), 3);
      check.due("flags(4096) of bit " + bit, gate.flags(4096), 8);
    }
  }

  private static void flagsOfEach(Check check) {
    int[] want = {8, 12, 10, 14, 9, 13, 11, 15};
    ImageFile file = new ImageFile(308).headers(8);
    for (int i = 0; i < 8; i++) {
      file.part(i, 0, i * 12288, 0, 4097, i);
    }
    ImageGate gate = check.loaded("eight parts", file, 18);
    for (int i = 0; i < 8; i++) {
      int a = i * 12288;
      check.due("flags of part " + i, gate.flags(a), want[i]);
      check.due("its second page's", gate.flags(a + 4096), want[i]);
      check.due("its last byte's", gate.flags(a + 8191), want[i]);
      check.due("behind it", gate.flags(a + 8192), i < 7 ? ImageGate.NONE : 3);
    }
  }

  private static void pageAtEnd(Check check) {
    ImageGate gate = check.loaded("two parts", ImageFile.twoParts(), 5);
    check.due("flags below END", gate.flags(16383), 9);
    check.due("flags at END", gate.flags(16384), 3);
    check.due("flags of its last byte", gate.flags(20479), 3);
    for (int a = 16384; a < 20480; a += 15) {
      check.due("at(" + a + ")", gate.at(a), 0);
    }
    gate = check.loaded("no part", new ImageFile(52), 2);
    check.due("flags(0)", gate.flags(0), 3);
    check.due("flags(4095)", gate.flags(4095), 3);
    check.bytes("no part", gate, 0, 0, 0, 0);
  }

  private static void stack(Check check) {
    ImageGate gate = check.loaded("two parts", ImageFile.twoParts(), 5);
    check.due("flags of its first byte", gate.flags(20480), 11);
    check.due("flags of its last byte", gate.flags(24575), 11);
    check.due("flags behind it", gate.flags(24576), ImageGate.NONE);
    check.due("at behind it", gate.at(24576), ImageGate.NONE);
    gate = check.loaded("no part", new ImageFile(52), 2);
    check.due("flags(4096)", gate.flags(4096), 11);
    check.due("flags(8191)", gate.flags(8191), 11);
    check.due("flags(8192)", gate.flags(8192), ImageGate.NONE);
    for (int a = 4096; a < 8192; a += 15) {
      check.due("at(" + a + ")", gate.at(a), 0);
    }
  }

  private static void size(Check check) {
    check.due("no part", check.loaded("no part", new ImageFile(52), 2).about(2), 8192);
    check.due("one part", check.loaded("one part", ImageFile.onePart(), 3).about(2), 16384);
    check.due("two parts", check.loaded("two parts", ImageFile.twoParts(), 5).about(2), 24576);
    ImageFile far = ImageFile.onePart().field(0, ImageFile.ADDRESS, ImageFile.HIGHEST - 4096);
    ImageGate gate = check.loaded("the highest", far, 3);
    check.due("the highest", gate.about(2), 1 << 30);
    check.due("its last byte", gate.at((1 << 30) - 1), 0);
    check.due("the byte behind", gate.at(1 << 30), ImageGate.NONE);
  }
}
