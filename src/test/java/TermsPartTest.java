/** A HEADER, PART and END. */
public final class TermsPartTest {
  public static void main(String[] args) {
    new Sentences("Term A HEADER")
        .test("it means nothing if its kind is not 1", TermsPartTest::otherKind)
        .test("it means nothing if its span is 0", TermsPartTest::noSpan)
        .test("it has two numbers that mean nothing", TermsPartTest::idleNumbers)
        .test("a header that means nothing moves no END and takes no page", TermsPartTest::movesNothing)
        .in("Term PART")
        .test("its address is a multiple of 4,096", TermsPartTest::multiple)
        .test("not below the END so far", TermsPartTest::notBelowEnd)
        .test("which is 0 at first", TermsPartTest::endAtFirst)
        .test("address + span is at most 1073733632", TermsPartTest::highest)
        .test("address + span does not wrap around", TermsPartTest::sumOfPlace)
        .test("it has no more bytes than span", TermsPartTest::noMoreBytes)
        .test("FROM + BYTES is at most the file's length", TermsPartTest::inFile)
        .test("FROM + BYTES does not wrap around", TermsPartTest::sumInFile)
        .test("0 bytes are a part too", TermsPartTest::noBytes)
        .in("Term END")
        .test("the first multiple of 4,096 that is not below address + span", TermsPartTest::end)
        .test("of the latest part, by headers in order", TermsPartTest::endOfLatest)
        .finish();
  }

  private static ImageFile one(int field, long v) {
    return ImageFile.onePart().field(0, field, v);
  }

  private static ImageFile second(int field, long v) {
    return ImageFile.twoParts().field(1, field, v);
  }

  private static void otherKind(Check check) {
    long[] kinds = {0, 2, 3, 0x101, 0x10001, 0x1000001, 0x01000000, 0x80000001L, 0xFFFFFFFFL, 0xFFFFFFFEL};
    for (long kind : kinds) {
      ImageFile file = ImageFile.onePart().part(0, -1, 4097, -1, 1, 7).field(0, ImageFile.KIND, kind);
      check.loaded("kind " + kind + ", all else wrong", file, 2);
      check.loaded("kind " + kind + ", all else right", one(ImageFile.KIND, kind), 2);
    }
    check.loaded("kind 1", one(ImageFile.KIND, 1), 3);
  }

  private static void noSpan(Check check) {
    check.loaded("all else right", one(ImageFile.SPAN, 0), 2);
    check.loaded("all else wrong", ImageFile.onePart().part(0, -1, 4097, -1, 0, 7), 2);
    check.loaded("an address too high", one(ImageFile.SPAN, 0).field(0, ImageFile.ADDRESS, 0xFFFFF000L), 2);
    check.loaded("a second below END", second(ImageFile.SPAN, 0).field(1, ImageFile.ADDRESS, 0), 4);
    check.loaded("a span of 1", one(ImageFile.SPAN, 1).field(0, ImageFile.BYTES, 1), 3);
  }

  private static void idleNumbers(Check check) {
    long[] values = {1, 0x80000000L, 0xFFFFFFFFL};
    for (long v : values) {
      ImageGate gate = check.loaded("both " + v, one(ImageFile.NOTHING, v).field(0, ImageFile.NOTHING_TOO, v), 3);
      check.about("both " + v, gate, 0, 16368, 16384, 0, 3);
      check.bytes("both " + v, gate, 4096, 1, 2, 3);
      check.due("flags(4096)", gate.flags(4096), 9);
    }
  }

  private static void movesNothing(Check check) {
    ImageFile file = ImageFile.twoParts().field(0, ImageFile.KIND, 2).field(1, ImageFile.ADDRESS, 0);
    ImageGate gate = check.loaded("the first has another kind", file, 3);
    check.about("the first has another kind", gate, 0, 12272, 12288, 0, 3);
    file = ImageFile.twoParts().field(0, ImageFile.SPAN, 0).field(1, ImageFile.ADDRESS, 4096);
    gate = check.loaded("the first has no span", file, 3);
    check.about("the first has no span", gate, 0, 16368, 16384, 0, 3);
    gate = check.loaded("the last has another kind", second(ImageFile.KIND, 0), 4);
    check.about("the last has another kind", gate, 0, 20464, 20480, 0, 4);
    gate = check.loaded("the last has no span", second(ImageFile.SPAN, 0).field(1, ImageFile.ADDRESS, 1 << 20), 4);
    check.about("the last has no span", gate, 0, 20464, 20480, 0, 4);
  }

  private static void multiple(Check check) {
    long[] crooked = {1, 2, 4, 16, 256, 1024, 2048, 4095, 4097, 6144, 8191, 8193, 0x10001, 0x3FFFCFFFL};
    for (long a : crooked) {
      check.refused("address " + a, one(ImageFile.ADDRESS, a), 4);
    }
    long[] straight = {0, 4096, 8192, 12288, 0x10000, 0x12345000, 0x20000000};
    for (long a : straight) {
      ImageGate gate = check.loaded("address " + a, one(ImageFile.ADDRESS, a), 3);
      check.bytes("address " + a, gate, (int) a, 1, 2, 3);
    }
  }

  private static void notBelowEnd(Check check) {
    ImageGate gate = check.loaded("at END", ImageFile.twoParts(), 5);
    check.bytes("at END", gate, 12287, 0, 1, 2, 3, 4, 0);
    check.refused("a page below", second(ImageFile.ADDRESS, 8192), 4);
    check.refused("the same address", second(ImageFile.ADDRESS, 4096), 4);
    check.refused("in front of the first", second(ImageFile.ADDRESS, 0), 4);
    gate = check.loaded("a page above", second(ImageFile.ADDRESS, 16384), 5);
    check.due("the page between", gate.flags(12288), ImageGate.NONE);
    check.loaded("a page below, but the first is shorter",
        second(ImageFile.ADDRESS, 8192).field(0, ImageFile.SPAN, 4096), 4);
  }

  private static void endAtFirst(Check check) {
    ImageGate gate = check.loaded("address 0", one(ImageFile.ADDRESS, 0), 3);
    check.bytes("address 0", gate, 0, 1, 2, 3);
    ImageGate again = ImageFile.twoParts().inGate();
    check.loaded("two parts", again, 32, 5);
    check.loaded("the same again: END is 0 anew", again, 32, 5);
    again.put(ImageFile.HEADERS + 32 + ImageFile.ADDRESS, 4, 1);
    check.refused("a wrong part", again, 32, 4);
    again.put(ImageFile.HEADERS + 32 + ImageFile.ADDRESS, 4, 12288);
    check.loaded("and behind a refused one", again, 32, 5);
  }

  private static void highest(Check check) {
    long top = ImageFile.HIGHEST;
    ImageGate gate = check.loaded("a page up to it", one(ImageFile.ADDRESS, top - 4096), 3);
    check.about("a page up to it", gate, 0, (1 << 30) - 16, 1 << 30, 0, 3);
    check.bytes("a page up to it", gate, (int) top - 4096, 1, 2, 3);
    check.refused("one byte above", one(ImageFile.ADDRESS, top - 4096).field(0, ImageFile.SPAN, 4097), 4);
    check.loaded("one byte below", one(ImageFile.ADDRESS, top - 4096).field(0, ImageFile.SPAN, 4095), 3);
    check.refused("one byte at it", one(ImageFile.ADDRESS, top).field(0, ImageFile.SPAN, 1)
        .field(0, ImageFile.BYTES, 0), 4);
    check.loaded("30 pages up to it", one(ImageFile.ADDRESS, top - 30 * 4096).field(0, ImageFile.SPAN, 30 * 4096), 32);
    check.refused("all of it", one(ImageFile.ADDRESS, 0).field(0, ImageFile.SPAN, top), 5);
    check.refused("all of it and one more", one(ImageFile.ADDRESS, 0).field(0, ImageFile.SPAN, top + 1), 4);
    check.loaded("a second up to it", second(ImageFile.ADDRESS, top - 4096).field(1, ImageFile.SPAN, 4096), 5);
    check.refused("a second above it", second(ImageFile.ADDRESS, top - 4096).field(1, ImageFile.SPAN, 4097), 4);
  }

  private static void sumOfPlace(Check check) {
    long[][] places = {{0xFFFFF000L, 4096}, {0xFFFFF000L, 4097}, {0xFFFFF000L, 8192}, {0xFFFFE000L, 8192},
      {4096, 0xFFFFF000L}, {4096, 0xFFFFFFFFL}, {0x7FFFF000L, 4096}, {0x80000000L, 0x80000000L}, {4096, 0x7FFFF000L}};
    for (long[] place : places) {
      ImageFile file = one(ImageFile.ADDRESS, place[0]).field(0, ImageFile.SPAN, place[1]);
      check.refused("address " + place[0] + " and span " + place[1], file, 4);
    }
  }

  private static void noMoreBytes(Check check) {
    ImageGate gate = check.loaded("as many", one(ImageFile.SPAN, 16), 3);
    check.bytes("as many", gate, 4096 + 14, 15, 16, 0);
    check.refused("one more", one(ImageFile.SPAN, 15), 4);
    check.loaded("one less", one(ImageFile.SPAN, 17), 3);
    check.loaded("1 of 1", one(ImageFile.SPAN, 1).field(0, ImageFile.BYTES, 1), 3);
    check.refused("2 of 1", one(ImageFile.SPAN, 1).field(0, ImageFile.BYTES, 2), 4);
    ImageFile long1 = new ImageFile(4300).headers(1).part(0, 84, 0, 4097, 4096, 4);
    check.refused("one more than a page", long1, 4);
  }

  private static void inFile(Check check) {
    check.loaded("up to the file's end", one(ImageFile.FROM, 84), 3);
    check.refused("FROM one more", one(ImageFile.FROM, 85), 4);
    check.refused("BYTES one more", one(ImageFile.BYTES, 17), 4);
    ImageGate gate = check.loaded("the whole file", one(ImageFile.FROM, 0).field(0, ImageFile.BYTES, 100), 3);
    check.bytes("the whole file", gate, 4096, 127, 69, 76, 70);
    check.bytes("the whole file", gate, 4096 + 98, 15, 16, 0);
    check.refused("one more than the whole file", one(ImageFile.FROM, 0).field(0, ImageFile.BYTES, 101), 4);
    check.loaded("the last byte", one(ImageFile.FROM, 99).field(0, ImageFile.BYTES, 1), 3);
    check.refused("the byte behind it", one(ImageFile.FROM, 100).field(0, ImageFile.BYTES, 1), 4);
    ImageGate cut = ImageFile.onePart().inGate();
    check.loaded("100 bytes", cut, 32, 3);
    cut.end(99);
    check.refused("the file was cut", cut, 32, 4);
    cut.feed(0x11000000, 0, 0, 0, 0);
    check.loaded("the file has grown", cut, 32, 3);
    check.bytes("the file has grown", cut, 4096 + 14, 15, 17, 0);
  }

  private static void sumInFile(Check check) {
    long[][] places = {{0xFFFFFFF0L, 16}, {0xFFFFFFF1L, 16}, {0xFFFFFFFFL, 1}, {0xFFFFFFFFL, 2}, {0x7FFFFFFFL, 1},
      {0x7FFFFFF0L, 16}, {0x80000000L, 0}, {0xFFFFFFFFL, 0}, {0xFFFFFF9CL, 100}, {0xFFFFF000L, 4096}};
    for (long[] place : places) {
      ImageFile file = one(ImageFile.FROM, place[0]).field(0, ImageFile.BYTES, place[1]);
      check.refused("FROM " + place[0] + " and BYTES " + place[1], file, 4);
    }
  }

  private static void noBytes(Check check) {
    ImageGate gate = check.loaded("at the file's begin", one(ImageFile.FROM, 0).field(0, ImageFile.BYTES, 0), 3);
    check.bytes("no bytes", gate, 4096, 0, 0, 0, 0);
    check.due("no bytes: flags", gate.flags(4096), 9);
    check.loaded("at the file's end", one(ImageFile.FROM, 100).field(0, ImageFile.BYTES, 0), 3);
    check.refused("behind the file's end", one(ImageFile.FROM, 101).field(0, ImageFile.BYTES, 0), 4);
  }

  private static void end(Check check) {
    int[][] spans = {{16, 1}, {4095, 1}, {4096, 1}, {4097, 2}, {8191, 2}, {8192, 2}, {8193, 3}, {122880, 30}};
    for (int[] span : spans) {
      ImageGate gate = check.loaded("span " + span[0], one(ImageFile.SPAN, span[0]), span[1] + 2);
      int end = 4096 + 4096 * span[1];
      check.due("span " + span[0] + ": the page below END", gate.flags(end - 1), 9);
      check.due("span " + span[0] + ": the page at END", gate.flags(end), 3);
      check.due("span " + span[0] + ": SIZE", gate.about(2), end + 8192);
    }
    ImageGate gate = check.loaded("no part: END is 0", new ImageFile(52), 2);
    check.due("no part: the page at END", gate.flags(0), 3);
  }

  private static void endOfLatest(Check check) {
    check.loaded("in order", ImageFile.twoParts(), 5);
    ImageFile turned = new ImageFile(120).headers(2).part(1, 116, 4096, 4, 4097, 4).part(0, 116, 12288, 4, 5, 4);
    check.refused("the same two turned round", turned, 4);
    ImageGate gate = check.loaded("a second far away", second(ImageFile.ADDRESS, 1 << 24), 5);
    check.about("a second far away", gate, 0, (1 << 24) + 12272, (1 << 24) + 12288, 0, 5);
    check.due("the page at END", gate.flags((1 << 24) + 4096), 3);
    check.due("behind the first part", gate.flags(12288), ImageGate.NONE);
  }
}
