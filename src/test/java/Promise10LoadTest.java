/** What a load lays, what it leaves, and how many pages it may take. */
public final class Promise10LoadTest {
  public static void main(String[] args) {
    Check check = new Check();
    pageRoom(check);
    layout(check);
    zeroBehindAnOldImage(check);
    refusedLeavesAll(check);
    fileAndImageAreApart(check);
    stackLayout(check);
    check.finish();
  }

  private static void pageRoom(Check check) {
    ImageGate gate = new ImageFile(84).headers(1).part(0, 0, 0, 0, 30 * 4096, 4).inGate();
    check.refused("32 pages", gate, 31, 5);
    check.refused("32 pages", gate, 0, 5);
    check.refused("32 pages", gate, Integer.MIN_VALUE, 5);
    check.loaded("32 pages", gate, 32, 32);
    check.loaded("32 pages", gate, 33, 32);
    check.loaded("32 pages", gate, Integer.MAX_VALUE, 32);
    gate.put(72, 4, 30 * 4096 + 1);
    check.refused("33 pages", gate, 32, 5);
    check.refused("33 pages", gate, 33, 5);
    check.refused("33 pages", gate, Integer.MAX_VALUE, 5);

    gate = new ImageFile(52).inGate();
    check.refused("2 pages", gate, -1, 5);
    check.refused("2 pages", gate, 0, 5);
    check.refused("2 pages", gate, 1, 5);
    check.loaded("2 pages", gate, 2, 2);
  }

  private static void layout(Check check) {
    ImageFile file = new ImageFile(6000).headers(3).pattern(148, 5852)
        .part(0, 148, 4096, 5000, 5001, 5).part(1, 1000, 5 * 4096, 4096, 4096, 6).part(2, 6000, 9 * 4096, 0, 1, 0);
    ImageGate gate = file.inGate();
    check.loaded("three parts", gate, 32, 6);
    for (int a = 0; a < 13 * 4096; a++) {
      int page = a / 4096;
      int want = page == 1 || page == 2 ? (a - 4096 < 5000 ? ImageFile.patternAt(a - 4096) : 0)
          : page == 5 ? ImageFile.patternAt(a - 5 * 4096 + 852)
          : page >= 9 && page <= 11 ? 0 : -1;
      check.due("at(" + a + ")", gate.at(a), want);
    }
    check.due("about(2)", gate.about(2), 12 * 4096);
  }

  private static void zeroBehindAnOldImage(Check check) {
    ImageFile old = new ImageFile(8192).headers(1).part(0, 84, 0, 8000, 8192, 7).pattern(84, 8108);
    ImageGate gate = old.inGate();
    gate.argument();
    gate.letters(-1);
    check.loaded("the old image", gate, 4, 4);
    gate.forget();
    new ImageFile(100).headers(1).part(0, 84, 0, 3, 8192, 4).pattern(84, 16).giveTo(gate);
    check.loaded("the new image", gate, 4, 4);
    for (int a = 0; a < 4 * 4096; a++) {
      check.due("new at(" + a + ")", gate.at(a), a < 3 ? a + 1 : 0);
    }
    new ImageFile(52).giveTo(gate);
    check.loaded("a smaller image", gate, 4, 2);
    for (int a = 0; a < 4 * 4096; a++) {
      check.due("small at(" + a + ")", gate.at(a), a < 8192 ? 0 : -1);
    }
  }

  private static void refusedLeavesAll(Check check) {
    ImageGate gate = new ImageFile(200).entry(11).headers(1).part(0, 84, 4096, 100, 100, 1).pattern(84, 116).inGate();
    gate.argument();
    gate.letters(0x6162);
    check.loaded("the image before", gate, 32, 3);
    long before = digest(gate);
    gate.put(24, 4, 99);
    gate.put(84, 4, 0);
    gate.argument();
    gate.put(60, 4, 8192);
    check.refused("too few pages", gate, 2, 5);
    check.due("after 5", digest(gate), before);
    gate.put(60, 4, 8193);
    check.refused("a wrong part", gate, 32, 4);
    check.due("after 4", digest(gate), before);
    gate.put(28, 4, 169);
    check.refused("a header outside", gate, 32, 3);
    check.due("after 3", digest(gate), before);
    gate.put(20, 4, 2);
    check.refused("another version", gate, 32, 2);
    check.due("after 2", digest(gate), before);
    gate.end(51);
    check.refused("too short", gate, 32, 1);
    check.due("after 1", digest(gate), before);
    new ImageFile(52).giveTo(gate);
    gate.forget();
    for (int i = 0; i < 32; i++) {
      gate.argument();
      for (int j = 0; j < 15; j++) {
        gate.letters(-1);
      }
    }
    check.refused("a full stack", gate, 32, 6);
    check.due("after 6", digest(gate), before);
  }

  private static long digest(ImageGate gate) {
    long sum = 17;
    for (int what = 0; what <= 4; what++) {
      sum = sum * 31 + gate.about(what);
    }
    for (int a = 0; a < 6 * 4096; a++) {
      sum = sum * 31 + gate.at(a);
      sum = sum * 31 + gate.flags(a);
    }
    return sum;
  }

  private static void fileAndImageAreApart(Check check) {
    ImageGate gate = new ImageFile(100).headers(1).part(0, 84, 0, 16, 16, 4).pattern(84, 16).inGate();
    gate.argument();
    gate.letters(0x61);
    check.loaded("first", gate, 32, 3);
    gate.set(84, 200);
    gate.letters(0x62);
    check.due("at(0), the file changed", gate.at(0), 1);
    check.due("the letter behind", gate.at(3 * 4096 - 3), 0);
    check.loaded("second: file and arguments stayed", gate, 32, 3);
    check.due("at(0)", gate.at(0), 200);
    check.due("at(1)", gate.at(1), 2);
    check.due("the first letter", gate.at(3 * 4096 - 4), 0x61);
    check.due("the second letter", gate.at(3 * 4096 - 3), 0x62);
  }

  private static void stackLayout(Check check) {
    ImageGate gate = new ImageFile(84).headers(1).part(0, 0, 0x12345000, 0, 1, 4).inGate();
    String[] texts = {"", "abc", "abcd", "a", "abcdefg", "abcdefgh"};
    for (String text : texts) {
      gate.argument();
      for (int i = 0; i < text.length(); i++) {
        gate.letters(text.charAt(i));
      }
    }
    check.loaded("six arguments", gate, 3, 3);
    int size = 0x12348000;
    check.due("about(2)", gate.about(2), size);
    int[] below = {4, 8, 16, 20, 28, 40};
    int sp = size - 40 - 28 & -16;
    check.due("about(1)", gate.about(1), sp);
    for (int i = 0; i < texts.length; i++) {
      int place = size - below[i];
      for (int j = 0; j <= texts[i].length(); j++) {
        int want = j < texts[i].length() ? texts[i].charAt(j) : 0;
        check.due("argument " + i + " letter " + j, gate.at(place + j), want);
      }
      check.due("address " + i, numberAt(gate, sp + 4 * i), place);
    }
    check.due("the 0 behind the addresses", numberAt(gate, sp + 24), 0);
    check.due("below the stack pointer", numberAt(gate, sp - 4), 0);
  }

  private static int numberAt(ImageGate gate, int a) {
    return gate.at(a) | gate.at(a + 1) << 8 | gate.at(a + 2) << 16 | gate.at(a + 3) << 24;
  }
}
