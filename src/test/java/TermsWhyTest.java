/** WHY it is refused: the first that holds. */
public final class TermsWhyTest {
  public static void main(String[] args) {
    new Sentences("Term WHY")
        .test("the first that holds, whichever of the six hold", TermsWhyTest::firstThatHolds)
        .test("1 there are no 52 bytes", TermsWhyTest::tooShort)
        .test("1 the first 7 are not so", TermsWhyTest::otherStart)
        .test("2 kind, machine, version, or the size or number of headers", TermsWhyTest::otherKind)
        .test("3 a header that is not in the file, whatever the headers in it are", TermsWhyTest::headerOutside)
        .test("4 a part is not as it must be, by headers in order", TermsWhyTest::wrongPart)
        .test("5 there are fewer pages than it wants", TermsWhyTest::fewerPages)
        .test("6 the stack", TermsWhyTest::stack)
        .finish();
  }

  /** A file for which all the reasons 1 to 4 hold whose bits are set. */
  private static ImageFile spoilt(int reasons) {
    ImageFile file = ImageFile.onePart();
    if ((reasons & 2) != 0) {
      file.number(6, 1, 0);
    }
    if ((reasons & 4) != 0) {
      file.number(20, 4, 0);
    }
    if ((reasons & 8) != 0) {
      file.headers(2);
    }
    if ((reasons & 16) != 0) {
      file.field(0, ImageFile.ADDRESS, 1);
    }
    return file;
  }

  private static void firstThatHolds(Check check) {
    for (int reasons = 0; reasons < 128; reasons += 2) {
      ImageGate gate = spoilt(reasons).inGate();
      if ((reasons & 64) != 0) {
        Texts.add(gate, 32, 127);
      }
      int pages = (reasons & 32) != 0 ? 2 : 3;
      String what = "reasons by bits " + Integer.toBinaryString(reasons);
      if (reasons == 0) {
        check.loaded(what, gate, pages, 3);
      } else {
        check.refused(what, gate, pages, Integer.numberOfTrailingZeros(reasons));
      }
    }
  }

  private static void tooShort(Check check) {
    check.refused("no file", new ImageGate(), 32, 1);
    int[] lengths = {51, 50, 46, 44, 20, 8, 7, 6, 1, 0};
    for (int n : lengths) {
      ImageGate gate = new ImageFile(52).inGate();
      gate.end(n);
      check.refused(n + " bytes", gate, 32, 1);
      check.refused(n + " bytes, no pages", gate, 0, 1);
    }
    ImageGate gate = new ImageFile(52).number(16, 2, 3).inGate();
    check.refused("52 bytes", gate, 32, 2);
    gate.end(51);
    check.refused("51 bytes of another kind", gate, 32, 1);
  }

  private static void otherStart(Check check) {
    for (int k = 0; k < 7; k++) {
      check.refused("byte " + k, new ImageFile(52).number(k, 1, 9).number(16, 2, 3), 1);
    }
    check.refused("bytes 0 to 6 are so", new ImageFile(52).number(7, 1, 9).number(16, 2, 3), 2);
  }

  private static void otherKind(Check check) {
    check.refused("kind", new ImageFile(52).number(16, 2, 3), 2);
    check.refused("machine", new ImageFile(52).number(18, 2, 62), 2);
    check.refused("version", new ImageFile(52).number(20, 4, 0), 2);
    check.refused("the size of headers", new ImageFile(52).number(42, 2, 56), 2);
    check.refused("the number of headers", new ImageFile(52).headers(9), 2);
    check.refused("the size of headers, of which one is outside", new ImageFile(52).headers(1).number(42, 2, 0), 2);
    check.refused("the number of headers, all in the file", new ImageFile(52 + 9 * 32).headers(9), 2);
  }

  private static void headerOutside(Check check) {
    check.refused("the first", new ImageFile(83).headers(1), 3);
    check.refused("the second, and the first is a wrong part", spoilt(8 | 16), 3);
    ImageFile wide = ImageFile.onePart().field(0, ImageFile.SPAN, 100 * 4096).headers(2);
    check.refused("the second, and the first wants too many pages", wide, 3);
    ImageFile last = new ImageFile(307).headers(8).part(0, 0, 1, 0, 1, 0);
    check.refused("the eighth by a byte, and the first is a wrong part", last, 3);
  }

  private static void wrongPart(Check check) {
    check.refused("the first", ImageFile.twoParts().field(0, ImageFile.ADDRESS, 1), 4);
    check.refused("the second", ImageFile.twoParts().field(1, ImageFile.ADDRESS, 12289), 4);
    check.refused("the second, behind one that means nothing",
        ImageFile.twoParts().field(0, ImageFile.KIND, 2).field(1, ImageFile.ADDRESS, 12289), 4);
    check.refused("the second, and the first wants too many pages",
        ImageFile.twoParts().field(0, ImageFile.SPAN, 100 * 4096).field(1, ImageFile.ADDRESS, 101 * 4096 + 1), 4);
    check.refused("the second below the END of one that wants too many pages",
        ImageFile.twoParts().field(0, ImageFile.SPAN, 100 * 4096).field(1, ImageFile.ADDRESS, 100 * 4096), 4);
    check.refused("the second at the END of one that wants too many pages",
        ImageFile.twoParts().field(0, ImageFile.SPAN, 100 * 4096).field(1, ImageFile.ADDRESS, 101 * 4096), 5);
  }

  private static void fewerPages(Check check) {
    ImageGate gate = ImageFile.twoParts().inGate();
    check.refused("4 of 5", gate, 4, 5);
    check.loaded("5 of 5", gate, 5, 5);
    check.loaded("6 of 5", gate, 6, 5);
    check.refused("none of 5", gate, 0, 5);
    ImageFile both = ImageFile.twoParts().field(0, ImageFile.SPAN, 15 * 4096)
        .field(1, ImageFile.ADDRESS, 16 * 4096).field(1, ImageFile.SPAN, 15 * 4096);
    check.loaded("32 by two parts", both, 32);
    check.refused("33 by two parts", both.field(1, ImageFile.SPAN, 15 * 4096 + 1), 5);
    ImageFile eight = new ImageFile(308).headers(8);
    for (int i = 0; i < 8; i++) {
      eight.part(i, 0, 4 * 4096 * i, 0, i < 6 ? 4 * 4096 : 3 * 4096, 4);
    }
    check.loaded("32 by eight parts", eight, 32);
    check.refused("33 by eight parts", eight.field(7, ImageFile.SPAN, 4 * 4096), 5);
    check.refused("the most that a part can want",
        ImageFile.onePart().field(0, ImageFile.ADDRESS, 0).field(0, ImageFile.SPAN, ImageFile.HIGHEST), 5);
  }

  /** More calls than an object is promised for: 512 can't bring a file and fill the stack. */
  private static void stack(Check check) {
    ImageGate gate = ImageFile.onePart().inGate();
    Texts.add(gate, 31, 127);
    check.loaded("just room", gate, 3, 3);
    gate.argument();
    check.refused("no room", gate, 3, 6);
    check.refused("no room, and too few pages", gate, 2, 5);
    check.about("the image before stays", gate, 0, 12288, 16384, 31, 3);
  }
}
