/** Counts the calls whose answer is not the one that is due. */
final class Check {
  private int wrong = 0;

  void due(String call, long got, long want) {
    if (got != want) {
      wrong++;
      System.out.println(call + " answered " + got + ", due is " + want);
    }
  }

  void yes(String call, boolean got) {
    due(call, got ? 1 : 0, 1);
  }

  void no(String call, boolean got) {
    due(call, got ? 1 : 0, 0);
  }

  /** A load that refuses, and why. */
  void refused(String what, ImageGate gate, int pages, int why) {
    due(what + ": load(" + pages + ")", gate.load(pages), ImageGate.NONE);
    due(what + ": why()", gate.why(), why);
  }

  /** A load that does not refuse. */
  void loaded(String what, ImageGate gate, int pages, int want) {
    due(what + ": load(" + pages + ")", gate.load(pages), want);
    due(what + ": why()", gate.why(), 0);
  }

  void finish() {
    if (wrong != 0) {
      System.out.println(wrong + " answers are not as due");
      System.exit(1);
    }
  }
}
