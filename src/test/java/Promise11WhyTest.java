/** Why the latest load refused: each reason at its edges, and the first that holds. */
public final class Promise11WhyTest {
  private static final long HIGHEST = 1073733632L;

  public static void main(String[] args) {
    Check check = new Check();
    latest(check);
    start(check);
    kind(check);
    headers(check);
    partPlaces(check);
    partBytes(check);
    meaningless(check);
    stack(check);
    order(check);
    check.finish();
  }

  private static ImageFile onePart() {
    return new ImageFile(100).headers(1).part(0, 84, 4096, 16, 4096, 4);
  }

  private static ImageFile twoParts() {
    return new ImageFile(120).headers(2).part(0, 116, 4096, 4, 4097, 4).part(1, 116, 12288, 4, 5, 4);
  }

  private static void latest(Check check) {
    ImageGate gate = new ImageGate();
    check.due("why() without a load", gate.why(), 0);
    check.refused("no file", gate, 32, 1);
    check.due("why() again", gate.why(), 1);
    new ImageFile(52).giveTo(gate);
    check.due("why() before the next load", gate.why(), 1);
    check.loaded("an image", gate, 32, 2);
    check.refused("too few pages", gate, 1, 5);
  }

  private static void start(Check check) {
    for (int i = 0; i < 7; i++) {
      ImageFile file = new ImageFile(52);
      int was = file.bytes()[i];
      check.refused("first byte " + i, file.number(i, 1, was + 1).inGate(), 32, 1);
      check.refused("first byte " + i, file.number(i, 1, was | 128).inGate(), 32, 1);
    }
    check.loaded("byte 7 means nothing", new ImageFile(52).number(7, 1, 255).inGate(), 32, 2);
    ImageGate gate = new ImageFile(52).inGate();
    gate.end(51);
    check.refused("51 bytes", gate, 32, 1);
    int[] nothing = {8, 15, 32, 35, 36, 40, 41, 46, 51};
    for (int k : nothing) {
      check.loaded("byte " + k + " means nothing", new ImageFile(52).number(k, 1, 255).inGate(), 32, 2);
    }
  }

  private static void kind(Check check) {
    int[][] fields = {{16, 2, 2}, {18, 2, 243}, {20, 4, 1}, {42, 2, 32}};
    for (int[] f : fields) {
      for (int bit = 0; bit < 8 * f[1]; bit++) {
        ImageGate gate = new ImageFile(52).number(f[0], f[1], f[2] ^ 1 << bit).inGate();
        check.refused("number at " + f[0] + ", bit " + bit, gate, 32, 2);
      }
    }
    ImageFile file = new ImageFile(52 + 9 * 32);
    for (int n = 0; n <= 8; n++) {
      check.loaded(n + " headers", file.headers(n).inGate(), 32, 2);
    }
    int[] wrong = {9, 255, 256, 0x8000, 0xFFFF};
    for (int n : wrong) {
      check.refused(n + " headers", file.headers(n).inGate(), 32, 2);
    }
  }

  private static void headers(Check check) {
    check.refused("no byte of a header", new ImageFile(52).headers(1).inGate(), 32, 3);
    check.refused("one byte too few", new ImageFile(83).headers(1).inGate(), 32, 3);
    check.loaded("just in the file", new ImageFile(84).headers(1).inGate(), 32, 2);
    check.refused("the second outside", new ImageFile(115).headers(2).inGate(), 32, 3);
    check.refused("the eighth outside", new ImageFile(307).headers(8).inGate(), 32, 3);
    check.loaded("eight in the file", new ImageFile(308).headers(8).inGate(), 32, 2);
    long[] far = {0xFFFFFFFFL, 0xFFFFFFC4L, 0xFFFFFFE0L, 0x80000000L, 0x7FFFFFFFL, 0x7FFFFFE0L, 0xFFFFFF00L};
    for (long begin : far) {
      ImageFile file = new ImageFile(308).number(28, 4, begin);
      check.refused("headers at " + begin, file.headers(1).inGate(), 32, 3);
      check.refused("eight at " + begin, file.headers(8).inGate(), 32, 3);
      check.loaded("none at " + begin, file.headers(0).inGate(), 32, 2);
    }
    // At 20 the version makes its kind 1, and where the headers begin, 20, its address: a part, and a wrong one.
    check.refused("a header among the first bytes", new ImageFile(52).number(28, 4, 20).headers(1).inGate(), 32, 4);
    check.loaded("a header at 0 that means nothing", new ImageFile(52).number(28, 4, 0).headers(1).inGate(), 32, 2);
  }

  private static void partPlaces(Check check) {
    check.loaded("one part", onePart().inGate(), 32, 3);
    long[] crooked = {1, 4095, 4097, 2048, 0xFFFFFFFFL};
    for (long a : crooked) {
      check.refused("address " + a, onePart().number(60, 4, a).inGate(), 32, 4);
    }
    check.loaded("the highest end", onePart().number(60, 4, HIGHEST - 4096).inGate(), 32, 3);
    check.refused("above the highest end", onePart().number(60, 4, HIGHEST).inGate(), 32, 4);
    check.refused("one byte above it", onePart().number(60, 4, HIGHEST - 4096).number(72, 4, 4097).inGate(), 32, 4);
    check.refused("all of it", onePart().number(60, 4, 0).number(72, 4, HIGHEST).inGate(), 32, 5);
    check.refused("and one more", onePart().number(60, 4, 0).number(72, 4, HIGHEST + 1).inGate(), 32, 4);
    check.refused("address + span over 2^32", onePart().number(60, 4, 0xFFFFF000L).inGate(), 32, 4);
    check.refused("the same, above 0", onePart().number(60, 4, 0xFFFFF000L).number(72, 4, 8192).inGate(), 32, 4);
    check.refused("address 2^31", onePart().number(60, 4, 0x80000000L).inGate(), 32, 4);
    check.refused("span 2^31", onePart().number(72, 4, 0x80000000L).inGate(), 32, 4);
    check.refused("span 2^32 - 1", onePart().number(72, 4, 0xFFFFFFFFL).inGate(), 32, 4);

    check.loaded("at the end so far", twoParts().inGate(), 32, 5);
    check.refused("below the end so far", twoParts().number(92, 4, 8192).inGate(), 32, 4);
    check.loaded("the first ends with its page", twoParts().number(92, 4, 8192).number(72, 4, 4096).inGate(), 32, 4);
    check.refused("the same place", twoParts().number(92, 4, 4096).inGate(), 32, 4);
    check.refused("in front of the first", twoParts().number(92, 4, 0).inGate(), 32, 4);
    check.loaded("a gap", twoParts().number(92, 4, 16384).inGate(), 32, 5);
  }

  private static void partBytes(Check check) {
    check.loaded("as many bytes as span", onePart().number(72, 4, 16).inGate(), 32, 3);
    check.refused("more bytes than span", onePart().number(72, 4, 15).inGate(), 32, 4);
    check.refused("bytes 2^32 - 1", onePart().number(68, 4, -1).inGate(), 32, 4);
    check.refused("bytes 2^31", onePart().number(68, 4, 0x80000000L).inGate(), 32, 4);
    check.refused("one byte behind the file", onePart().number(68, 4, 17).inGate(), 32, 4);
    check.refused("from one too far", onePart().number(56, 4, 85).inGate(), 32, 4);
    check.loaded("from 0", onePart().number(56, 4, 0).number(68, 4, 100).inGate(), 32, 3);
    check.loaded("no bytes at the file's end", onePart().number(56, 4, 100).number(68, 4, 0).inGate(), 32, 3);
    check.refused("no bytes behind it", onePart().number(56, 4, 101).number(68, 4, 0).inGate(), 32, 4);
    check.refused("from 2^32 - 1", onePart().number(56, 4, -1).inGate(), 32, 4);
    check.refused("from 2^32 - 16", onePart().number(56, 4, -16).inGate(), 32, 4);
    check.refused("from 2^31", onePart().number(56, 4, 0x80000000L).inGate(), 32, 4);
    check.refused("from 2^31, none", onePart().number(56, 4, 0x80000000L).number(68, 4, 0).inGate(), 32, 4);
  }

  private static void meaningless(Check check) {
    long[] kinds = {0, 2, 0x101, 0x10001, 0x1000001, 0xFFFFFFFFL, 0x80000001L};
    for (long kind : kinds) {
      ImageFile file = onePart().part(0, -1, 4097, -1, 1, 7).number(52, 4, kind);
      check.loaded("kind " + kind, file.inGate(), 32, 2);
    }
    check.loaded("span 0", onePart().part(0, -1, 4097, -1, 0, 7).inGate(), 32, 2);
    check.loaded("two words that mean nothing", onePart().number(64, 4, -1).number(80, 4, -1).inGate(), 32, 3);
    check.loaded("it does not move the end", twoParts().number(52, 4, 2).number(92, 4, 0).inGate(), 32, 3);
  }

  private static void stack(Check check) {
    check.loaded("30 full", withArguments(30, 127, 0, 0), 32, 2);
    // 31 * 128 for the letters and 32 * 4 for the addresses are the whole page.
    ImageGate brim = withArguments(31, 127, 0, 0);
    check.loaded("31 full", brim, 32, 2);
    check.due("the stack pointer at the stack's begin", brim.about(1), 4096);
    brim.argument();
    check.refused("31 full and an empty one", brim, 32, 6);
    check.refused("32 full", withArguments(32, 127, 0, 0), 32, 6);

    // 30 * 128 + 60 + 64 + 33 * 4 are the whole page, too.
    brim = withArguments(30, 127, 1, 59);
    brim.argument();
    letters(brim, 63);
    check.loaded("32 to the brim", brim, 32, 2);
    check.due("the stack pointer at the stack's begin", brim.about(1), 4096);
    check.due("the first address", brim.at(4096), 8192 - 128 & 255);
    brim.letters(1);
    check.refused("one letter more", brim, 32, 6);
  }

  private static ImageGate withArguments(int n, int size, int more, int moreSize) {
    ImageGate gate = new ImageFile(52).inGate();
    for (int i = 0; i < n + more; i++) {
      gate.argument();
      letters(gate, i < n ? size : moreSize);
    }
    return gate;
  }

  private static void letters(ImageGate gate, int n) {
    for (int i = 0; i < n; i++) {
      if (!gate.letters(0x61)) {
        throw new IllegalStateException("no letter more");
      }
    }
  }

  private static void order(Check check) {
    ImageGate gate = withArguments(32, 127, 0, 0);
    check.refused("5 before 6", gate, 1, 5);
    onePart().number(60, 4, 1).giveTo(gate);
    check.refused("4 before 5 and 6", gate, 0, 4);
    onePart().number(60, 4, 1).number(28, 4, 90).giveTo(gate);
    check.refused("3 before 4", gate, 0, 3);
    twoParts().number(60, 4, 1).headers(3).giveTo(gate);
    check.refused("3 of a later header before 4 of an earlier", gate, 0, 3);
    onePart().number(28, 4, 90).number(16, 2, 3).giveTo(gate);
    check.refused("2 before 3", gate, 0, 2);
    onePart().number(16, 2, 3).number(6, 1, 0).giveTo(gate);
    check.refused("1 before 2", gate, 0, 1);
    onePart().number(72, 4, HIGHEST - 4096).giveTo(gate);
    check.refused("5 of a huge part", gate, 32, 5);
    twoParts().number(72, 4, 100 * 4096).number(92, 4, 101 * 4096 + 1).giveTo(gate);
    check.refused("4 of the second before 5 of the first", gate, 32, 4);
  }
}
