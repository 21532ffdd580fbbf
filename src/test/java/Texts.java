/** Gives arguments to a gate. */
final class Texts {
  private Texts() {
  }

  /** One argument more, of so many letters 97. */
  static void add(ImageGate gate, int size) {
    if (!gate.argument()) {
      throw new IllegalStateException("no argument more");
    }
    more(gate, size);
  }

  /** So many letters 97 more for the latest argument, with as few calls as can be. */
  static void more(ImageGate gate, int size) {
    for (int left = size; left > 0; left -= 8) {
      if (!gate.letters(0x6161616161616161L >>> 8 * Math.max(0, 8 - left))) {
        throw new IllegalStateException("no letter more");
      }
    }
  }

  /** One argument more, with these letters. */
  static void add(ImageGate gate, String text) {
    add(gate, 0);
    for (int i = 0; i < text.length(); i++) {
      gate.letters(text.charAt(i));
    }
  }

  static void add(ImageGate gate, int count, int size) {
    for (int i = 0; i < count; i++) {
      add(gate, size);
    }
  }
}
