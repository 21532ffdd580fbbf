/** THE FILE, ARGUMENTS, NUMBERS and UNSIGNED. */
public final class TermsFileTest {
  public static void main(String[] args) {
    new Sentences("Term THE FILE")
        .test("at most 65,536 bytes", TermsFileTest::largestFile)
        .in("Term ARGUMENTS")
        .test("at most 32 texts", TermsFileTest::mostTexts)
        .test("of at most 127 bytes", TermsFileTest::longestText)
        .test("bytes 1 .. 255 each", TermsFileTest::letterValues)
        .in("Term NUMBERS")
        .test("they have the lowest byte first", TermsFileTest::lowestFirst)
        .test("they are ints", TermsFileTest::ints)
        .in("Term UNSIGNED")
        .test("where headers begin", TermsFileTest::begin)
        .test("FROM", TermsFileTest::from)
        .test("ADDRESS", TermsFileTest::address)
        .test("BYTES", TermsFileTest::bytes)
        .test("SPAN", TermsFileTest::span)
        .test("FLAGS", TermsFileTest::flags)
        .finish();
  }

  /** More calls than an object is promised for: 512 calls can't fill a file of 65,536 bytes. */
  private static void largestFile(Check check) {
    ImageGate gate = new ImageFile(65516).headers(1).part(0, 65535, 0, 1, 1, 4).inGate();
    check.yes("feed up to 65,536", gate.feed(0, 0, 0, 0, 77));
    check.due("length()", gate.length(), 65536);
    check.no("feed beyond", gate.feed(1, 1, 1, 1, 1));
    check.due("length()", gate.length(), 65536);
    check.no("set(65536, 1)", gate.set(65536, 1));
    check.no("put(65533, 4, 1)", gate.put(65533, 4, 1));
    check.no("end(65537)", gate.end(65537));
    check.yes("end(65536)", gate.end(65536));
    check.loaded("its last byte", gate, 3, 3);
    check.bytes("its last byte", gate, 0, 77, 0);
    check.yes("set(65535, 78)", gate.set(65535, 78));
    check.yes("put(65532, 4, 1)", gate.put(65532, 4, 1));
    gate.put(ImageFile.HEADERS + ImageFile.BYTES, 4, 2);
    gate.put(ImageFile.HEADERS + ImageFile.SPAN, 4, 2);
    check.refused("one byte beyond", gate, 3, 4);
  }

  private static void mostTexts(Check check) {
    ImageGate gate = new ImageFile(52).inGate();
    Texts.add(gate, 31, 1);
    check.yes("argument 32", gate.argument());
    check.no("argument 33", gate.argument());
    check.loaded("32 texts", gate, 2, 2);
    check.about("32 texts", gate, 0, (8192 - 32 * 4 - 33 * 4) / 16 * 16, 8192, 32, 2);
  }

  private static void longestText(Check check) {
    ImageGate gate = new ImageFile(52).inGate();
    Texts.add(gate, 126);
    check.yes("letter 127", gate.letters('z'));
    check.no("letter 128", gate.letters('y'));
    check.loaded("127 letters", gate, 2, 2);
    check.bytes("the first", gate, 8063, 0, 97);
    check.bytes("the last", gate, 8190, 'z', 0);
  }

  private static void letterValues(Check check) {
    ImageGate gate = new ImageFile(52).inGate();
    gate.argument();
    gate.letters(0x01007F0080FE00FFL);
    check.loaded("five letters", gate, 2, 2);
    check.bytes("five letters", gate, 8184, 1, 127, 128, 254, 255, 0, 0, 0);
    for (int letter = 1; letter <= 255; letter++) {
      ImageGate one = new ImageFile(52).inGate();
      one.argument();
      check.yes("letters(" + letter + ")", one.letters(letter));
      one.load(2);
      check.bytes("letter " + letter, one, 8188, letter, 0);
    }
  }

  private static void lowestFirst(Check check) {
    ImageGate gate = new ImageFile(52).inGate();
    for (int i = 0; i < 4; i++) {
      gate.set(24 + i, i + 1);
    }
    check.loaded("ENTRY", gate, 2, 2);
    check.due("ENTRY", gate.about(0), 0x04030201);
    check.refused("a 2 of 2 bytes, the highest first", new ImageFile(52).number(16, 2, 0x0200), 2);
    check.refused("a 243, the highest first", new ImageFile(52).number(18, 2, 0xF300), 2);
    check.refused("a 1 of 4 bytes, the highest first", new ImageFile(52).number(20, 4, 0x01000000), 2);
    check.refused("a 32, the highest first", new ImageFile(52).number(42, 2, 0x2000), 2);
    check.refused("one header, the highest first", new ImageFile(84).headers(0x0100), 2);
    check.refused("the headers' begin, the highest first", new ImageFile(84).headers(1).begin(0x34000000L), 3);
    check.loaded("an address, the highest first",
        ImageFile.onePart().field(0, ImageFile.ADDRESS, 0x00100000L), 3);
    ImageGate high = ImageFile.onePart().field(0, ImageFile.ADDRESS, 0x12345000L).inGate();
    Texts.add(high, "a");
    check.loaded("an argument's address", high, 3, 3);
    check.bytes("an argument's address", high, high.about(1), 0xFC, 0x7F, 0x34, 0x12, 0, 0, 0, 0);
  }

  private static void ints(Check check) {
    int[] entries = {0, 1, 255, 256, 0x7FFFFFFF, 0x80000000, 0x80000001, -1, -2, 0xFFFF0000, 0x00FF00FF, 0xFF00FF00};
    for (int entry : entries) {
      ImageGate gate = check.loaded("ENTRY " + entry, new ImageFile(52).entry(entry), 2);
      check.due("ENTRY", gate.about(0), entry);
    }
  }

  private static void begin(Check check) {
    long[] far = {0xFFFFFFFFL, 0xFFFFFFE0L, 0xFFFFFFC4L, 0xFFFFFF00L, 0x80000000L, 0x80000034L, 0x7FFFFFFFL,
      0x7FFFFFE0L, 0x10034L};
    for (long begin : far) {
      check.refused("one at " + begin, new ImageFile(308).begin(begin).headers(1), 3);
      check.refused("eight at " + begin, new ImageFile(308).begin(begin).headers(8), 3);
    }
  }

  /** Each with 0 bytes and with some, for 2^32 - 16 and 16 bytes are 0 if a sum is cut to 32 bits. */
  private static void from(Check check) {
    long[] far = {0xFFFFFFFFL, 0xFFFFFFF0L, 0xFFFFFFF8L, 0x80000000L, 0x80000054L, 0x7FFFFFFFL, 0x7FFFFFF0L};
    for (long from : far) {
      check.refused("FROM " + from, ImageFile.onePart().field(0, ImageFile.FROM, from), 4);
      check.refused("FROM " + from + ", no bytes",
          ImageFile.onePart().field(0, ImageFile.FROM, from).field(0, ImageFile.BYTES, 0), 4);
    }
  }

  private static void address(Check check) {
    long[] far = {0xFFFFF000L, 0xFFFFE000L, 0x80000000L, 0x80001000L, 0x7FFFF000L, 0x40000000L};
    for (long address : far) {
      check.refused("ADDRESS " + address, ImageFile.onePart().field(0, ImageFile.ADDRESS, address), 4);
      check.refused("ADDRESS " + address + ", a span of two pages",
          ImageFile.onePart().field(0, ImageFile.ADDRESS, address).field(0, ImageFile.SPAN, 8192), 4);
      check.refused("ADDRESS " + address + " of a second part",
          ImageFile.twoParts().field(1, ImageFile.ADDRESS, address), 4);
    }
  }

  private static void bytes(Check check) {
    long[] many = {0xFFFFFFFFL, 0xFFFFFFACL, 0x80000000L, 0x80000010L, 0x7FFFFFFFL};
    for (long bytes : many) {
      check.refused("BYTES " + bytes, ImageFile.onePart().field(0, ImageFile.BYTES, bytes), 4);
      check.refused("BYTES " + bytes + " and SPAN",
          ImageFile.onePart().field(0, ImageFile.BYTES, bytes).field(0, ImageFile.SPAN, bytes), 4);
    }
  }

  private static void span(Check check) {
    long[] wide = {0xFFFFFFFFL, 0xFFFFF000L, 0xFFFFE001L, 0x80000000L, 0x80001000L, 0x7FFFFFFFL, 0x7FFFF000L};
    for (long span : wide) {
      check.refused("SPAN " + span, ImageFile.onePart().field(0, ImageFile.SPAN, span), 4);
      check.refused("SPAN " + span + ", no bytes",
          ImageFile.onePart().field(0, ImageFile.SPAN, span).field(0, ImageFile.BYTES, 0), 4);
      check.refused("SPAN " + span + " at 0",
          ImageFile.onePart().field(0, ImageFile.SPAN, span).field(0, ImageFile.ADDRESS, 0), 4);
    }
  }

  private static void flags(Check check) {
    long[][] flags = {{0xFFFFFFFFL, 15}, {0x80000000L, 8}, {0x80000004L, 9}, {0xFFFFFFF8L, 8}};
    for (long[] f : flags) {
      ImageGate gate = check.loaded("FLAGS " + f[0], ImageFile.onePart().field(0, ImageFile.FLAGS, f[0]), 3);
      check.due("flags(4096)", gate.flags(4096), f[1]);
    }
  }
}
