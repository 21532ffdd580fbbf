/** What lies ON THE STACK, and SP. Without a part the stack is the page from 4,096 to 8,192. */
public final class TermsStackTest {
  public static void main(String[] args) {
    new Sentences("Term ON THE STACK")
        .test("the arguments lie from its end downwards, the first one first", TermsStackTest::downwards)
        .test("each at the greatest multiple of 4 where it and a 0 behind it have room", TermsStackTest::multipleOfFour)
        .test("an empty argument is a 0 alone", TermsStackTest::empty)
        .test("then their addresses in order and a 0, 4 bytes each", TermsStackTest::addresses)
        .test("the rest of it is 0", TermsStackTest::restIsZero)
        .test("if the stack has no room for that, it is refused", TermsStackTest::noRoom)
        .test("also if the arguments leave no byte of it for their addresses", TermsStackTest::noRoomForAddresses)
        .test("full to the brim it is not refused", TermsStackTest::brim)
        .in("Term SP")
        .test("the greatest multiple of 16 where the addresses have room", TermsStackTest::multipleOfSixteen)
        .test("without arguments it points to a 0", TermsStackTest::noArguments)
        .finish();
  }

  private static ImageGate loaded(Check check, String... texts) {
    ImageGate gate = new ImageFile(52).inGate();
    for (String text : texts) {
      Texts.add(gate, text);
    }
    check.loaded(texts.length + " arguments", gate, 2, 2);
    return gate;
  }

  private static void downwards(Check check) {
    ImageGate gate = loaded(check, "abc", "def", "ghi");
    check.bytes("three", gate, 8180, 'g', 'h', 'i', 0, 'd', 'e', 'f', 0, 'a', 'b', 'c', 0, -1);
  }

  private static void multipleOfFour(Check check) {
    for (int size = 0; size <= 127; size++) {
      ImageGate gate = new ImageFile(52).inGate();
      Texts.add(gate, size);
      Texts.add(gate, "z");
      check.loaded(size + " letters", gate, 2, 2);
      int place = 8192 - (size + 4) / 4 * 4;
      check.number(size + " letters: the address", gate, gate.about(1), place);
      check.due(size + " letters: the first", gate.at(place), size == 0 ? 0 : 97);
      check.due(size + " letters: the 0 behind", gate.at(place + size), 0);
      check.bytes(size + " letters: the next argument", gate, place - 4, 'z', 0, 0, 0);
    }
    ImageGate gate = loaded(check, "", "abc", "abcd", "a", "abcdefg", "abcdefgh");
    int[] below = {4, 8, 16, 20, 28, 40};
    for (int i = 0; i < below.length; i++) {
      check.number("argument " + i, gate, gate.about(1) + 4 * i, 8192 - below[i]);
    }
  }

  private static void empty(Check check) {
    ImageGate gate = loaded(check, "", "", "a");
    check.bytes("two empty ones and one", gate, 8180, 'a', 0, 0, 0, 0, 0, 0, 0, 0, 0, 0, 0);
    check.number("the first", gate, 8160, 8188);
    check.number("the second", gate, 8164, 8184);
    check.number("the third", gate, 8168, 8180);
  }

  private static void addresses(Check check) {
    ImageGate gate = new ImageFile(84).headers(1).part(0, 0, 0x12345000, 0, 1, 4).inGate();
    Texts.add(gate, "abcd");
    Texts.add(gate, "");
    Texts.add(gate, "ab");
    Texts.add(gate, "xyz");
    check.loaded("four", gate, 3, 3);
    int sp = 0x12347FD0;
    check.about("four", gate, 0, sp, 0x12348000, 4, 3);
    check.number("the first", gate, sp, 0x12347FF8);
    check.number("the second", gate, sp + 4, 0x12347FF4);
    check.number("the third", gate, sp + 8, 0x12347FF0);
    check.number("the fourth", gate, sp + 12, 0x12347FEC);
    check.number("the 0", gate, sp + 16, 0);
  }

  private static void restIsZero(Check check) {
    ImageGate gate = loaded(check, "abcd", "e");
    // From 8180 on the two texts lie, from 8160 to 8172 their addresses and a 0; what is between is free.
    check.bytes("behind the addresses", gate, 8172, 0, 0, 0, 0, 0, 0, 0, 0);
    check.bytes("the texts", gate, 8180, 'e', 0, 0, 0, 'a', 'b', 'c', 'd', 0, 0, 0, 0);
    for (int a = 4096; a < 8160; a += 13) {
      check.due("at(" + a + ")", gate.at(a), 0);
    }
    check.bytes("below the addresses", gate, 8156, 0, 0, 0, 0, 0xF8, 0x1F, 0, 0, 0xF4, 0x1F, 0, 0, 0, 0, 0, 0);
  }

  /** From here on more calls than an object is promised for: 512 can't bring a file and fill the stack. */
  private static ImageGate with(int count, int size, int... more) {
    ImageGate gate = new ImageFile(52).inGate();
    Texts.add(gate, count, size);
    for (int other : more) {
      Texts.add(gate, other);
    }
    return gate;
  }

  private static void noRoom(Check check) {
    // 31 * 128 for the texts and 32 * 4 for the addresses are the whole page.
    check.refused("31 full ones and an empty one", with(31, 127, 0), 32, 6);
    check.refused("31 full ones and one letter", with(31, 127, 1), 32, 6);
    // 30 * 128 + 60 + 64 + 33 * 4 are the whole page, too.
    check.refused("one letter too many", with(30, 127, 59, 64), 32, 6);
    check.refused("one letter too many for the one before", with(30, 127, 60, 63), 32, 6);
    check.refused("room for the addresses, but not for their 0", with(30, 127, 63, 63), 32, 6);
    // 32 * 124 + 33 * 4 are 4 more than the page.
    check.refused("32 of 123 letters", with(32, 123), 32, 6);
    check.refused("32 of 120 letters", with(32, 120), 32, 6);
  }

  private static void noRoomForAddresses(Check check) {
    // 32 * 128 are the whole page: the addresses have none of it.
    ImageGate gate = with(32, 127);
    check.refused("32 full ones", gate, 32, 6);
    check.refused("32 full ones, too few pages", gate, 1, 5);
    gate.forget();
    check.loaded("without arguments", gate, 32, 2);
  }

  private static void brim(Check check) {
    ImageGate gate = with(31, 127);
    check.loaded("31 full ones", gate, 32, 2);
    check.about("31 full ones", gate, 0, 4096, 8192, 31, 2);
    check.number("the first address", gate, 4096, 8192 - 128);
    check.number("the last address", gate, 4096 + 30 * 4, 4096 + 32 * 4);
    check.number("the 0", gate, 4096 + 31 * 4, 0);
    check.bytes("the last text", gate, 4096 + 32 * 4, 97, 97, 97);
    check.bytes("the page below", gate, 4092, 0, 0, 0, 0);
    gate = with(30, 127, 59, 63);
    check.loaded("32 to the brim", gate, 32, 2);
    check.about("32 to the brim", gate, 0, 4096, 8192, 32, 2);
    check.number("the 0", gate, 4096 + 32 * 4, 0);
    check.bytes("the last text", gate, 4096 + 33 * 4, 97, 97, 97);
    check.loaded("32 of 119 letters", with(32, 119), 32, 2);
  }

  private static void multipleOfSixteen(Check check) {
    int[][] sps = {{0, 8176}, {1, 8176}, {3, 8160}, {4, 8144}};
    for (int[] sp : sps) {
      ImageGate gate = with(sp[0], 0);
      check.loaded(sp[0] + " empty ones", gate, 2, 2);
      check.due(sp[0] + " empty ones: SP", gate.about(1), sp[1]);
    }
    // One text and 8 bytes of addresses: just room down to 8176, then one letter too many for it.
    int[][] ofOne = {{3, 8176}, {4, 8176}, {7, 8176}, {8, 8160}, {11, 8160}, {23, 8160}, {24, 8144}, {127, 8048}};
    for (int[] one : ofOne) {
      ImageGate gate = with(1, one[0]);
      check.loaded("one of " + one[0], gate, 2, 2);
      check.due("one of " + one[0] + ": SP", gate.about(1), one[1]);
    }
  }

  private static void noArguments(Check check) {
    ImageGate gate = with(0, 0);
    check.loaded("none", gate, 2, 2);
    check.due("SP", gate.about(1), 8176);
    check.bytes("a 0 and what is behind it", gate, 8176, 0, 0, 0, 0, 0, 0, 0, 0, 0, 0, 0, 0, 0, 0, 0, 0, -1);
  }
}
