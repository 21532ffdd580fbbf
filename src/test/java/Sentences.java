import java.util.function.Consumer;

/** Runs tests of which each stands for one sentence of the document, and names each of them with how it went. */
final class Sentences {
  private String place;
  private int failed = 0;

  /** The place is the promise or the term that the sentences belong to. */
  Sentences(String place) {
    this.place = place;
  }

  /** The sentences that follow belong to another place. */
  Sentences in(String otherPlace) {
    place = otherPlace;
    return this;
  }

  Sentences test(String sentence, Consumer<Check> body) {
    Check check = new Check();
    try {
      body.accept(check);
    } catch (RuntimeException e) {
      check.yes("a call that throws " + e, false);
    }
    System.out.println((check.good() ? "  ok   " : "  FAIL ") + place + ": " + sentence);
    failed += check.good() ? 0 : 1;
    return this;
  }

  void finish() {
    if (failed != 0) {
      System.exit(1);
    }
  }
}
