/** Promises 2, 3 and 4: takes, takesLongs and leavesLong, of every instruction and around them. */
public final class KindsTest {
  private static final String NONE = "";

  /** The numbers beside the document's runs of instructions, and numbers far from all of them. */
  private static final int[] NO_INSTRUCTIONS = {Integer.MIN_VALUE, Integer.MIN_VALUE + 106, -196,
      -69, -1, 0, 1, 68, 91, 102, 139, 166, 168, 169, 170, 171, 174, 191, 197, 255, 256, 256 + 106,
      65536 + 106, Integer.MAX_VALUE};

  public static void main(String[] args) {
    takesOfInstructions();
    takesOfNone();
    takesLongsOfInstructions();
    takesLongsOfNone();
    leavesLongOfInstructions();
    leavesLongOfNone();
    questionsDoNotDependOnTheState();
    everyNumberNearTheInstructions();
    numbersFarAway();
    Checks.end();
  }

  /** The kinds as the document lists them: what is taken, an arrow, what is left. */
  private static String kind(int c) {
    switch (c) {
      case 69: return "I>I";
      case 70: case 71: case 72: case 73: case 74: return "II>I";
      case 75: case 76: case 77: case 78: case 79: return "II>I";
      case 80: return "L>I";
      case 81: case 82: case 83: case 84: case 85: return "LL>I";
      case 86: case 87: case 88: case 89: case 90: return "LL>I";
      case 103: case 104: case 105: return "I>I";
      case 106: case 107: case 108: case 109: case 110: return "II>I";
      case 111: case 112: case 113: case 114: case 115: return "II>I";
      case 116: case 117: case 118: case 119: case 120: return "II>I";
      case 121: case 122: case 123: return "L>L";
      case 124: case 125: case 126: case 127: case 128: return "LL>L";
      case 129: case 130: case 131: case 132: case 133: return "LL>L";
      case 134: case 135: case 136: case 137: case 138: return "LL>L";
      case 167: return "L>I";
      case 172: case 173: return "I>L";
      case 192: case 193: return "I>I";
      case 194: case 195: case 196: return "L>L";
      default: return NONE;
    }
  }

  private static void dueTakes(WordArithmetic x, int c, int want) {
    Checks.due("takes(" + c + ")", x.takes(c), want);
  }

  private static void dueTakesLongs(WordArithmetic x, int c, boolean want) {
    Checks.due("takesLongs(" + c + ")", x.takesLongs(c), want);
  }

  private static void dueLeavesLong(WordArithmetic x, int c, boolean want) {
    Checks.due("leavesLong(" + c + ")", x.leavesLong(c), want);
  }

  private static void takesOfInstructions() {
    Checks.sentence("takes: How many values instruction c takes");
    int[] one = {69, 80, 103, 104, 105, 121, 122, 123, 167, 172, 173, 192, 193, 194, 195, 196};
    int[] two = {70, 75, 79, 81, 85, 90, 106, 112, 120, 124, 130, 138};
    for (int c : one) {
      dueTakes(new WordArithmetic(), c, 1);
    }
    for (int c : two) {
      dueTakes(new WordArithmetic(), c, 2);
    }
  }

  private static void takesOfNone() {
    Checks.sentence("takes: 0 if it is none of these");
    for (int c : NO_INSTRUCTIONS) {
      dueTakes(new WordArithmetic(), c, 0);
    }
  }

  private static void takesLongsOfInstructions() {
    Checks.sentence("takesLongs: Whether it takes longs");
    int[] longs = {80, 81, 90, 121, 122, 123, 124, 138, 167, 194, 195, 196};
    int[] ints = {69, 70, 79, 103, 104, 105, 106, 120, 172, 173, 192, 193};
    for (int c : longs) {
      dueTakesLongs(new WordArithmetic(), c, true);
    }
    for (int c : ints) {
      dueTakesLongs(new WordArithmetic(), c, false);
    }
  }

  private static void takesLongsOfNone() {
    Checks.sentence("takesLongs: false if it is none");
    for (int c : NO_INSTRUCTIONS) {
      dueTakesLongs(new WordArithmetic(), c, false);
    }
  }

  private static void leavesLongOfInstructions() {
    Checks.sentence("leavesLong: Whether it leaves a long");
    int[] longs = {121, 122, 123, 124, 138, 172, 173, 194, 195, 196};
    int[] ints = {69, 70, 79, 80, 81, 90, 103, 104, 105, 106, 120, 167, 192, 193};
    for (int c : longs) {
      dueLeavesLong(new WordArithmetic(), c, true);
    }
    for (int c : ints) {
      dueLeavesLong(new WordArithmetic(), c, false);
    }
  }

  private static void leavesLongOfNone() {
    Checks.sentence("leavesLong: false if it is none");
    for (int c : NO_INSTRUCTIONS) {
      dueLeavesLong(new WordArithmetic(), c, false);
    }
  }

  private static void questionsDoNotDependOnTheState() {
    Checks.sentence("takes, takesLongs, leavesLong: of c, whatever was worked out before");
    WordArithmetic x = new WordArithmetic();
    int[] before = {124, 106, 127, 68};
    for (int c : before) {
      x.work(c, Long.MIN_VALUE, -1L);
      dueTakes(x, 106, 2);
      dueTakes(x, 68, 0);
      dueTakesLongs(x, 124, true);
      dueTakesLongs(x, 106, false);
      dueLeavesLong(x, 172, true);
      dueLeavesLong(x, 167, false);
    }
  }

  private static void dueKind(int c) {
    WordArithmetic x = new WordArithmetic();
    String kind = kind(c);
    dueTakes(x, c, Math.max(0, kind.indexOf('>')));
    dueTakesLongs(x, c, kind.startsWith("L"));
    dueLeavesLong(x, c, kind.endsWith("L"));
    Checks.due("work(" + c + ", 1, 1)", x.work(c, 1L, 1L), kind.equals(NONE) ? -1 : 0);
  }

  private static void everyNumberNearTheInstructions() {
    Checks.sentence("INSTRUCTIONS c, by decimal numbers, with their kinds");
    for (int c = -600; c <= 600; c++) {
      dueKind(c);
    }
  }

  private static void numbersFarAway() {
    Checks.sentence("INSTRUCTIONS c: no bit of c is overlooked");
    for (int bit = 8; bit < 32; bit++) {
      for (int c = 0; c <= 255; c++) {
        dueKind(c | (1 << bit));
      }
    }
    dueKind(Integer.MAX_VALUE);
    dueKind(Integer.MIN_VALUE);
  }
}
