/** A file in the making: it begins as an image without headers, and tests change it from there. */
final class ImageFile {
  /** Where the headers begin if a test does not move them. */
  static final int HEADERS = 52;
  /** Where in a header its numbers are. */
  static final int KIND = 0;
  static final int FROM = 4;
  static final int ADDRESS = 8;
  static final int NOTHING = 12;
  static final int BYTES = 16;
  static final int SPAN = 20;
  static final int FLAGS = 24;
  static final int NOTHING_TOO = 28;
  /** The most that address + span may be. */
  static final long HIGHEST = 1073733632L;

  private final byte[] bytes;

  ImageFile(int length) {
    bytes = new byte[length];
    int[] first = {127, 69, 76, 70, 1, 1, 1};
    for (int i = 0; i < first.length; i++) {
      bytes[i] = (byte) first[i];
    }
    number(16, 2, 2).number(18, 2, 243).number(20, 4, 1);
    begin(HEADERS).number(42, 2, 32);
  }

  /** 100 bytes; the last 16 of them, 1 2 3 .., are the part's, at 4096. */
  static ImageFile onePart() {
    return new ImageFile(100).headers(1).part(0, 84, 4096, 16, 4096, 4).pattern(84, 16);
  }

  /** Two pages at 4096 and one right behind them; each has the file's last 4 bytes, 1 2 3 4. */
  static ImageFile twoParts() {
    return new ImageFile(120).headers(2).part(0, 116, 4096, 4, 4097, 4).part(1, 116, 12288, 4, 5, 4).pattern(116, 4);
  }

  ImageFile number(int k, int n, long v) {
    for (int i = 0; i < n; i++) {
      bytes[k + i] = (byte) (v >> 8 * i);
    }
    return this;
  }

  ImageFile entry(int v) {
    return number(24, 4, v);
  }

  ImageFile begin(long v) {
    return number(28, 4, v);
  }

  ImageFile headers(int n) {
    return number(44, 2, n);
  }

  /** One number of header i. */
  ImageFile field(int i, int which, long v) {
    return number(HEADERS + 32 * i + which, 4, v);
  }

  /** Header i of kind 1. */
  ImageFile part(int i, long from, long address, long size, long span, long flags) {
    return field(i, KIND, 1).field(i, FROM, from).field(i, ADDRESS, address)
        .field(i, BYTES, size).field(i, SPAN, span).field(i, FLAGS, flags);
  }

  /** Bytes 1, 2, 3 .. 250, 1, 2 .. from k on. */
  ImageFile pattern(int k, int n) {
    for (int i = 0; i < n; i++) {
      bytes[k + i] = (byte) patternAt(i);
    }
    return this;
  }

  static int patternAt(int i) {
    return 1 + i % 250;
  }

  byte[] bytes() {
    return bytes;
  }

  ImageGate inGate() {
    ImageGate gate = new ImageGate();
    giveTo(gate);
    return gate;
  }

  void giveTo(ImageGate gate) {
    gate.end(0);
    for (int k = 0; k < bytes.length; k += 20) {
      gate.feed(word(k), word(k + 4), word(k + 8), word(k + 12), word(k + 16));
    }
    if (!gate.end(bytes.length)) {
      throw new IllegalStateException("the gate did not take the file");
    }
  }

  private int word(int k) {
    int v = 0;
    for (int i = 0; i < 4; i++) {
      v = v << 8 | (k + i < bytes.length ? bytes[k + i] & 255 : 0);
    }
    return v;
  }
}
