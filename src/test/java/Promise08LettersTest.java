/** The latest argument has the bytes of w that are not 0 behind its others, from the highest on. */
public final class Promise08LettersTest {
  public static void main(String[] args) {
    new Sentences("Promise 8, letters")
        .test("the bytes of w from the highest on: true", Promise08LettersTest::highestFirst)
        .test("those that are not 0; of 0 none, and true", Promise08LettersTest::notZero)
        .test("behind its others", Promise08LettersTest::behind)
        .test("the latest argument, no other", Promise08LettersTest::latest)
        .test("false if there is none", Promise08LettersTest::none)
        .test("false if it would have more than 127, true for 127", Promise08LettersTest::full)
        .test("then it changes nothing", Promise08LettersTest::unchanged)
        .finish();
  }

  private static ImageGate withOne() {
    ImageGate gate = new ImageFile(52).inGate();
    gate.argument();
    return gate;
  }

  private static void highestFirst(Check check) {
    ImageGate gate = withOne();
    check.yes("letters", gate.letters(0xFF010203047F80FEL));
    check.loaded("eight letters", gate, 2, 2);
    check.bytes("eight letters", gate, 8180, 255, 1, 2, 3, 4, 127, 128, 254, 0, 0, 0, 0);
  }

  private static void notZero(Check check) {
    ImageGate gate = withOne();
    check.yes("letters(0)", gate.letters(0));
    check.yes("letters between zeros", gate.letters(0x0041004200430000L));
    check.yes("letters(0)", gate.letters(0));
    check.yes("the highest alone", gate.letters(0x8000000000000000L));
    check.yes("the lowest alone", gate.letters(1));
    check.yes("all but the highest and the lowest", gate.letters(0x0001000000000200L));
    check.loaded("seven letters", gate, 2, 2);
    check.bytes("seven letters", gate, 8184, 0x41, 0x42, 0x43, 128, 1, 1, 2, 0);
  }

  private static void behind(Check check) {
    ImageGate gate = withOne();
    gate.letters(0x6162);
    gate.letters(0x6364656667686970L);
    gate.letters(0x71);
    check.loaded("eleven letters", gate, 2, 2);
    check.bytes("eleven letters", gate, 8180, 0x61, 0x62, 0x63, 0x64, 0x65, 0x66, 0x67, 0x68, 0x69, 0x70, 0x71, 0);
  }

  private static void latest(Check check) {
    ImageGate gate = new ImageFile(52).inGate();
    Texts.add(gate, "aa");
    Texts.add(gate, "bbb");
    Texts.add(gate, "");
    check.loaded("three", gate, 2, 2);
    check.bytes("three", gate, 8180, 0, 0, 0, 0, 'b', 'b', 'b', 0, 'a', 'a', 0, 0);
    gate.letters('c');
    check.loaded("a letter for the third", gate, 2, 2);
    check.bytes("a letter for the third", gate, 8180, 'c', 0, 0, 0, 'b', 'b', 'b', 0, 'a', 'a', 0, 0);
  }

  private static void none(Check check) {
    ImageGate gate = new ImageFile(52).inGate();
    check.no("letters(97)", gate.letters(97));
    check.no("letters(0)", gate.letters(0));
    check.no("letters(-1)", gate.letters(-1));
    gate.argument();
    check.loaded("one, empty", gate, 2, 2);
    check.bytes("one, empty", gate, 8188, 0, 0, 0, 0);
    gate.forget();
    check.no("letters(97) after forget", gate.letters(97));
  }

  private static void full(Check check) {
    ImageGate gate = withOne();
    Texts.more(gate, 120);
    check.no("128 letters", gate.letters(-1L));
    check.no("128 letters, with 1", gate.letters(0x0101010101010101L));
    check.yes("127 letters", gate.letters(0x0102030004050607L));
    check.yes("none more", gate.letters(0));
    check.no("one more", gate.letters(1));
    check.no("one more, the highest", gate.letters(Long.MIN_VALUE));
    check.no("eight more", gate.letters(-1));
    check.yes("another argument", gate.argument());
    check.yes("its letters", gate.letters(-1));
  }

  private static void unchanged(Check check) {
    ImageGate gate = withOne();
    Texts.more(gate, 126);
    check.no("two more", gate.letters(0x3100000000000032L));
    check.loaded("126 letters", gate, 2, 2);
    check.bytes("the last of 126", gate, 8064 + 125, 97, 0, 0);
    check.yes("one more", gate.letters(0x33));
    check.no("one too many", gate.letters(0x34));
    check.loaded("127 letters", gate, 2, 2);
    for (int i = 0; i < 126; i++) {
      check.due("letter " + i, gate.at(8064 + i), 97);
    }
    check.bytes("the last of 127, and the 0", gate, 8064 + 126, 0x33, 0);
    check.due("about(1)", gate.about(1), 8048);
  }
}
