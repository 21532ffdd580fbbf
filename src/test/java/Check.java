/** Counts the calls whose answer is not the one that is due. */
final class Check {
  private int wrong = 0;

  void due(String call, long got, long want) {
    if (got != want) {
      wrong++;
      System.out.println(call + " answered " + got + ", due is " + want);
    }
  }

  void yes(String call, boolean got) {
    due(call, got ? 1 : 0, 1);
  }

  void no(String call, boolean got) {
    due(call, got ? 1 : 0, 0);
  }

  /** A load that refuses, and why. */
  void refused(String what, ImageGate gate, int pages, int why) {
    due(what + ": load(" + pages + ")", gate.load(pages), ImageGate.NONE);
    due(what + ": why()", gate.why(), why);
  }

  /** A load of a new object that refuses: then there is no image. */
  void refused(String what, ImageFile file, int why) {
    ImageGate gate = file.inGate();
    refused(what, gate, 32, why);
    about(what, gate, 0, 0, 0, 0, 0);
    due(what + ": at(0)", gate.at(0), ImageGate.NONE);
    due(what + ": flags(0)", gate.flags(0), ImageGate.NONE);
  }

  /** A load that does not refuse. */
  void loaded(String what, ImageGate gate, int pages, int want) {
    due(what + ": load(" + pages + ")", gate.load(pages), want);
    due(what + ": why()", gate.why(), 0);
  }

  /** A load of a new object that does not refuse; the object. */
  ImageGate loaded(String what, ImageFile file, int want) {
    ImageGate gate = file.inGate();
    loaded(what, gate, 32, want);
    due(what + ": about(4)", gate.about(4), want);
    return gate;
  }

  /** What the image has from an address on. */
  void bytes(String what, ImageGate gate, int address, int... want) {
    for (int i = 0; i < want.length; i++) {
      due(what + ": at(" + (address + i) + ")", gate.at(address + i), want[i]);
    }
  }

  /** The number of 4 bytes that the image has at an address. */
  void number(String what, ImageGate gate, int address, int want) {
    bytes(what, gate, address, want & 255, want >> 8 & 255, want >> 16 & 255, want >>> 24);
  }

  /** ENTRY, SP, SIZE, arguments and pages, in this order. */
  void about(String what, ImageGate gate, int... want) {
    for (int i = 0; i < want.length; i++) {
      due(what + ": about(" + i + ")", gate.about(i), want[i]);
    }
  }

  boolean good() {
    return wrong == 0;
  }

  void finish() {
    if (wrong != 0) {
      System.out.println(wrong + " answers are not as due");
      System.exit(1);
    }
  }
}
