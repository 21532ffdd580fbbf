/** A file in the making: it begins as an image without headers, and tests change it from there. */
final class ImageFile {
  static final int HEADERS = 52;
  private final byte[] bytes;

  ImageFile(int length) {
    bytes = new byte[length];
    int[] first = {127, 69, 76, 70, 1, 1, 1};
    for (int i = 0; i < first.length; i++) {
      bytes[i] = (byte) first[i];
    }
    number(16, 2, 2).number(18, 2, 243).number(20, 4, 1);
    number(28, 4, HEADERS).number(42, 2, 32);
  }

  ImageFile number(int k, int n, long v) {
    for (int i = 0; i < n; i++) {
      bytes[k + i] = (byte) (v >> 8 * i);
    }
    return this;
  }

  ImageFile entry(int v) {
    return number(24, 4, v);
  }

  ImageFile headers(int n) {
    return number(44, 2, n);
  }

  /** Header i of kind 1. */
  ImageFile part(int i, long from, long address, long size, long span, long flags) {
    int k = HEADERS + 32 * i;
    return number(k, 4, 1).number(k + 4, 4, from).number(k + 8, 4, address)
        .number(k + 16, 4, size).number(k + 20, 4, span).number(k + 24, 4, flags);
  }

  /** Bytes 1, 2, 3 .. 250, 1, 2 .. from k on. */
  ImageFile pattern(int k, int n) {
    for (int i = 0; i < n; i++) {
      bytes[k + i] = (byte) patternAt(i);
    }
    return this;
  }

  static int patternAt(int i) {
    return 1 + i % 250;
  }

  byte[] bytes() {
    return bytes;
  }

  ImageGate inGate() {
    ImageGate gate = new ImageGate();
    giveTo(gate);
    return gate;
  }

  void giveTo(ImageGate gate) {
    gate.end(0);
    for (int k = 0; k < bytes.length; k += 20) {
      gate.feed(word(k), word(k + 4), word(k + 8), word(k + 12), word(k + 16));
    }
    if (!gate.end(bytes.length)) {
      throw new IllegalStateException("the gate did not take the file");
    }
  }

  private int word(int k) {
    int v = 0;
    for (int i = 0; i < 4; i++) {
      v = v << 8 | (k + i < bytes.length ? bytes[k + i] & 255 : 0);
    }
    return v;
  }
}
