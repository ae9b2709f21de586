/** Promises 2, 3 and 4: takes, takesLongs and leavesLong, of every instruction and around them. */
public final class KindsTest {
  private static final String NONE = "";

  public static void main(String[] args) {
    everyNumberNearTheInstructions();
    numbersFarAway();
    Checks.end();
  }

  /** The kinds as the document lists them: what is taken, an arrow, what is left. */
  private static String kind(int c) {
    switch (c) {
      case 69: return "I>I";
      case 70: case 71: case 72: case 73: case 74: return "II>I";
      case 75: case 76: case 77: case 78: case 79: return "II>I";
      case 80: return "L>I";
      case 81: case 82: case 83: case 84: case 85: return "LL>I";
      case 86: case 87: case 88: case 89: case 90: return "LL>I";
      case 103: case 104: case 105: return "I>I";
      case 106: case 107: case 108: case 109: case 110: return "II>I";
      case 111: case 112: case 113: case 114: case 115: return "II>I";
      case 116: case 117: case 118: case 119: case 120: return "II>I";
      case 121: case 122: case 123: return "L>L";
      case 124: case 125: case 126: case 127: case 128: return "LL>L";
      case 129: case 130: case 131: case 132: case 133: return "LL>L";
      case 134: case 135: case 136: case 137: case 138: return "LL>L";
      case 167: return "L>I";
      case 172: case 173: return "I>L";
      case 192: case 193: return "I>I";
      case 194: case 195: case 196: return "L>L";
      default: return NONE;
    }
  }

  private static void dueKind(int c) {
    WordArithmetic x = new WordArithmetic();
    String kind = kind(c);
    Checks.due("takes(" + c + ")", x.takes(c), Math.max(0, kind.indexOf('>')));
    Checks.due("takesLongs(" + c + ")", x.takesLongs(c), kind.startsWith("L"));
    Checks.due("leavesLong(" + c + ")", x.leavesLong(c), kind.endsWith("L"));
    Checks.due("work(" + c + ", 1, 1)", x.work(c, 1L, 1L), kind.equals(NONE) ? -1 : 0);
  }

  private static void everyNumberNearTheInstructions() {
    for (int c = -600; c <= 600; c++) {
      dueKind(c);
    }
  }

  private static void numbersFarAway() {
    for (int bit = 8; bit < 32; bit++) {
      for (int c = 0; c <= 255; c++) {
        dueKind(c | (1 << bit));
      }
    }
    dueKind(Integer.MAX_VALUE);
    dueKind(Integer.MIN_VALUE);
  }
}
