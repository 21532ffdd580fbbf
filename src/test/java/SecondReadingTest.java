import java.util.Random;

/** Runs of calls, the same ones every time, each answer compared with the second reading's. */
public final class SecondReadingTest {
  private static final int[] EDGES = {0, 1, 2, 3, 4, 8, 9, 16, 32, 33, 52, 255, 256, 4095, 4096, 4097, 8192, 16384,
    131072, 65536, 1073733632, 1073729536, 1 << 30, -1, -2, -32, -60, -4096, Integer.MAX_VALUE, Integer.MIN_VALUE};
  private static final int[] FIELDS = {0, 6, 7, 16, 18, 20, 24, 28, 42, 44};
  private static final int[] reasons = new int[7];

  private final Random random;
  private final Check check;
  private final ImageGate gate = new ImageGate();
  private final SecondReading second = new SecondReading();
  private final String run;

  private SecondReadingTest(int seed, Check check) {
    random = new Random(seed);
    this.check = check;
    run = "run " + seed + ": ";
  }

  public static void main(String[] args) {
    Check check = new Check();
    for (int seed = 0; seed < 3000; seed++) {
      new SecondReadingTest(seed, check).run();
    }
    for (int why = 0; why < reasons.length; why++) {
      check.yes("enough loads with why " + why + " were met (" + reasons[why] + ")", reasons[why] > 200);
    }
    check.finish();
  }

  private void run() {
    give(image());
    if (random.nextInt(6) == 0) {
      fillArguments();
    }
    int calls = 100;
    for (int i = 0; i < calls; i++) {
      call();
    }
    sweep();
  }

  private ImageFile image() {
    int headers = random.nextInt(9);
    int length = 52 + 32 * headers + random.nextInt(600);
    ImageFile file = new ImageFile(length).headers(headers).entry(random.nextInt());
    file.pattern(52 + 32 * headers, length - 52 - 32 * headers);
    long address = 4096L * random.nextInt(3);
    for (int i = 0; i < headers; i++) {
      int size = random.nextInt(length);
      int span = size + random.nextInt(random.nextBoolean() ? 9000 : 100);
      file.part(i, random.nextInt(length - size + 1), address, size, span, random.nextInt(16));
      address += (span + 4095) / 4096 * 4096L + 4096L * random.nextInt(2);
    }
    return file;
  }

  private void give(ImageFile file) {
    byte[] bytes = file.bytes();
    file.giveTo(gate);
    second.end(0);
    while (second.length() < bytes.length) {
      second.feed(0, 0, 0, 0, 0);
    }
    second.end(bytes.length);
    for (int i = 0; i < bytes.length; i++) {
      second.set(i, bytes[i] & 255);
    }
  }

  private void fillArguments() {
    int size = random.nextInt(17);
    while (gate.argument() & second.argument()) {
      for (int i = 0; i < size; i++) {
        letters(-1L);
      }
    }
  }

  private int number() {
    int edge = EDGES[random.nextInt(EDGES.length)];
    return random.nextInt(3) == 0 ? edge + random.nextInt(5) - 2 : edge;
  }

  private int place() {
    switch (random.nextInt(4)) {
      case 0:
        return FIELDS[random.nextInt(FIELDS.length)];
      case 1:
        return number();
      default:
        return 52 + 4 * random.nextInt(66);
    }
  }

  private int address() {
    int size = second.about(2);
    switch (random.nextInt(4)) {
      case 0:
        return number();
      case 1:
        return second.about(1) + random.nextInt(64);
      default:
        return random.nextInt(Math.max(1, Math.min(size, 1 << 20))) + random.nextInt(3) * 4096;
    }
  }

  private void letters(long w) {
    due("letters(" + w + ")", gate.letters(w), second.letters(w));
  }

  private void load(int pages) {
    due("load(" + pages + ")", gate.load(pages), second.load(pages));
    due("why()", gate.why(), second.why());
    reasons[second.why()]++;
  }

  private void call() {
    int a = number();
    int k = place();
    switch (random.nextInt(16)) {
      case 0:
        due("feed", gate.feed(a, k, 1, -1, 77), second.feed(a, k, 1, -1, 77));
        break;
      case 1:
        int n = random.nextInt(4) > 0 ? second.length() + random.nextInt(6) - 2 : a;
        due("end(" + n + ")", gate.end(n), second.end(n));
        break;
      case 2:
        due("set", gate.set(k, a), second.set(k, a));
        break;
      case 3:
        tryPut(k, random.nextInt(6), a);
        break;
      case 4:
      case 5:
        changeAndBack(k, a);
        break;
      case 6:
        due("argument()", gate.argument(), second.argument());
        break;
      case 7:
      case 8:
        letters(random.nextLong() & random.nextLong() >> random.nextInt(64));
        break;
      case 9:
        if (random.nextInt(6) == 0) {
          gate.forget();
          second.forget();
        }
        break;
      case 10:
        load(random.nextInt(3) == 0 ? a : 32);
        break;
      case 11:
        give(image());
        load(32);
        break;
      case 12:
        due("about(" + a + ")", gate.about(a), second.about(a));
        break;
      default:
        int address = address();
        due("at(" + address + ")", gate.at(address), second.at(address));
        due("flags(" + address + ")", gate.flags(address), second.flags(address));
    }
    due("length()", gate.length(), second.length());
  }

  private void tryPut(int k, int n, int v) {
    due("put(" + k + ", " + n + ", " + v + ")", gate.put(k, n, v), second.put(k, n, v));
  }

  /** One field spoilt and mended again, so that the file does not stay refused for the rest of the run. */
  private void changeAndBack(int k, int v) {
    if (k < 0 || k > second.length() - 4) {
      return;
    }
    int was = second.wordAt(k);
    tryPut(k, 4, v);
    load(32);
    tryPut(k, 4, was);
    load(random.nextInt(33));
  }

  private void sweep() {
    for (int what = -1; what <= 5; what++) {
      due("about(" + what + ")", gate.about(what), second.about(what));
    }
    int size = Math.min(second.about(2), 48 * 4096);
    for (int a = -1; a < size + 2; a += 1 + random.nextInt(40)) {
      due("at(" + a + ")", gate.at(a), second.at(a));
      due("flags(" + a + ")", gate.flags(a), second.flags(a));
    }
    for (int a = second.about(1) - 20; a < second.about(2); a++) {
      due("at(" + a + ")", gate.at(a), second.at(a));
    }
  }

  private void due(String call, long got, long want) {
    check.due(run + call, got, want);
  }

  private void due(String call, boolean got, boolean want) {
    check.due(run + call, got ? 1 : 0, want ? 1 : 0);
  }
}
