/** Of the image, what 0: ENTRY, 1: SP, 2: SIZE, 3: how many arguments, 4: how many pages. */
public final class Promise12AboutTest {
  private static final int[] OTHERS = {-1, 5, 6, 32, 100, -4, 256, 65536, Integer.MAX_VALUE, Integer.MIN_VALUE};

  public static void main(String[] args) {
    new Sentences("Promise 12, about")
        .test("ENTRY, SP, SIZE, arguments and pages of the image", Promise12AboutTest::facts)
        .test("of the lowest and of the highest image", Promise12AboutTest::lowestAndHighest)
        .test("0 without one", Promise12AboutTest::withoutOne)
        .test("NONE for another what", Promise12AboutTest::another)
        .test("NONE for another what without an image too", Promise12AboutTest::anotherWithoutOne)
        .test("of the image, not of a file or arguments that came later", Promise12AboutTest::ofTheImage)
        .finish();
  }

  private static ImageFile file() {
    return new ImageFile(84).entry(-2).headers(1).part(0, 0, 8192, 0, 4097, 4);
  }

  private static void facts(Check check) {
    ImageGate gate = file().inGate();
    check.loaded("one part", gate, 32, 4);
    check.about("one part", gate, -2, 24560, 24576, 0, 4);
    Texts.add(gate, "");
    Texts.add(gate, "abcdefgh");
    check.loaded("two arguments", gate, 32, 4);
    check.about("two arguments", gate, -2, 24544, 24576, 2, 4);
  }

  private static void lowestAndHighest(Check check) {
    ImageGate gate = new ImageFile(52).inGate();
    check.loaded("the lowest", gate, 2, 2);
    check.about("the lowest", gate, 0, 8176, 8192, 0, 2);
    new ImageFile(84).entry(-1).headers(1).part(0, 0, ImageFile.HIGHEST - 4096, 0, 4096, 4).giveTo(gate);
    check.loaded("the highest", gate, 3, 3);
    check.about("the highest", gate, -1, (1 << 30) - 16, 1 << 30, 0, 3);
  }

  private static void withoutOne(Check check) {
    ImageGate gate = new ImageGate();
    check.about("a new object", gate, 0, 0, 0, 0, 0);
    file().giveTo(gate);
    Texts.add(gate, "a");
    check.about("no load", gate, 0, 0, 0, 0, 0);
    check.refused("too few pages", gate, 3, 5);
    check.about("a refused load", gate, 0, 0, 0, 0, 0);
  }

  private static void another(Check check) {
    ImageGate gate = file().inGate();
    check.loaded("one part", gate, 32, 4);
    for (int what : OTHERS) {
      check.due("about(" + what + ")", gate.about(what), ImageGate.NONE);
    }
  }

  private static void anotherWithoutOne(Check check) {
    ImageGate gate = new ImageGate();
    for (int what : OTHERS) {
      check.due("about(" + what + ")", gate.about(what), ImageGate.NONE);
    }
  }

  private static void ofTheImage(Check check) {
    ImageGate gate = file().inGate();
    Texts.add(gate, "abcdefghijklmnop");
    check.loaded("one part", gate, 32, 4);
    gate.forget();
    new ImageFile(52).entry(8).giveTo(gate);
    check.about("another file", gate, -2, 24544, 24576, 1, 4);
    check.loaded("its load", gate, 32, 2);
    check.about("its load", gate, 8, 8176, 8192, 0, 2);
  }
}
