/** Promise 5: work, a test for each of its sentences. */
public final class WorkTest {
  private static final long INT_LEAST = -2147483648L;
  private static final long LEAST = Long.MIN_VALUE;
  private static final long MOST = Long.MAX_VALUE;
  private static final long TWO_TO_32 = 4294967296L;

  private static final int[] TAKING_ONE =
      {69, 80, 103, 104, 105, 121, 122, 123, 167, 172, 173, 192, 193, 194, 195, 196};
  private static final int[] TAKING_TWO_INTS = {70, 71, 72, 73, 74, 75, 76, 77, 78, 79,
      106, 107, 108, 109, 110, 111, 112, 113, 114, 115, 116, 117, 118, 119, 120};
  private static final int[] TAKING_ONE_INT = {69, 103, 104, 105, 172, 173, 192, 193};

  public static void main(String[] args) {
    everyInstructionIsWorkedOut();
    resultTellsItAfterEachCall();
    oneValueIsA();
    trapsAnswerThreeOrFour();
    trapsLeaveTheResult();
    noInstructionAnswersMinusOne();
    noInstructionLeavesTheResult();
    lowest32BitsOfTwoIntsCount();
    lowest32BitsOfOneIntCount();
    lowest32BitsDecideOnTraps();
    allBitsOfLongsCount();
    Checks.end();
  }

  /** The results of the instructions from c on, in their order. */
  private static void give(int c, long a, long b, long... results) {
    for (int i = 0; i < results.length; i++) {
      Checks.gives(c + i, a, b, results[i]);
    }
  }

  private static void everyInstructionIsWorkedOut() {
    Checks.sentence("Works c out with a and b: 0, and result() tells it");
    give(69, 20L, 6L, 0L, 0L, 1L, 0L, 0L, 1L, 1L, 0L, 0L, 1L, 1L);
    give(80, 20L, 6L, 0L, 0L, 1L, 0L, 0L, 1L, 1L, 0L, 0L, 1L, 1L);
    give(103, 20L, 6L, 27L, 2L, 2L);
    give(106, 20L, 6L, 26L, 14L, 120L, 3L, 3L, 2L, 2L, 4L, 22L, 18L, 1280L, 0L, 0L, 1280L,
        1342177280L);
    give(121, 20L, 6L, 59L, 2L, 2L);
    give(124, 20L, 6L, 26L, 14L, 120L, 3L, 3L, 2L, 2L, 4L, 22L, 18L, 1280L, 0L, 0L, 1280L,
        5764607523034234880L);
    give(167, 20L, 6L, 20L);
    give(172, 20L, 6L, 20L, 20L);
    give(192, 20L, 6L, 20L, 20L, 20L, 20L, 20L);
  }

  private static void resultTellsItAfterEachCall() {
    Checks.sentence("0, and result() tells it: on one object, call after call");
    WordArithmetic x = new WordArithmetic();
    Checks.dueWork(x, 106, 20L, 6L, 0, 26L);
    Checks.dueWork(x, 107, 6L, 6L, 0, 0L);
    Checks.dueWork(x, 126, TWO_TO_32, 3L, 0, 12884901888L);
    Checks.dueWork(x, 69, 0L, 0L, 0, 1L);
    Checks.dueWork(x, 69, 0L, 0L, 0, 1L);
  }

  private static void oneValueIsA() {
    Checks.sentence("of one that takes one value, a is that");
    long[] others = {0L, 1L, -1L, 200L, INT_LEAST, TWO_TO_32, LEAST, MOST};
    long[] results = {0L, 0L, 24L, 3L, 3L, 56L, 3L, 3L, 200L, 200L, 200L, -56L, 200L, -56L, 200L,
        200L};
    for (int i = 0; i < TAKING_ONE.length; i++) {
      for (long b : others) {
        Checks.gives(TAKING_ONE[i], 200L, b, results[i]);
      }
    }
  }

  private static void trapsAnswerThreeOrFour() {
    Checks.sentence("3 or 4 a trap");
    int[] divisions = {109, 110, 111, 112, 127, 128, 129, 130};
    for (int c : divisions) {
      Checks.due("work(" + c + ", 5, 0)", new WordArithmetic().work(c, 5L, 0L), 3L);
    }
    Checks.due("work(109, least, -1)", new WordArithmetic().work(109, INT_LEAST, -1L), 4L);
    Checks.due("work(127, least, -1)", new WordArithmetic().work(127, LEAST, -1L), 4L);
  }

  private static void trapsLeaveTheResult() {
    Checks.sentence("3 or 4 a trap (result() stays)");
    WordArithmetic x = new WordArithmetic();
    Checks.dueWork(x, 107, 1L, 8L, 0, -7L);
    for (int c = 109; c <= 112; c++) {
      Checks.dueWork(x, c, 5L, 0L, 3, -7L);
      Checks.dueWork(x, c + 18, 5L, 0L, 3, -7L);
    }
    Checks.dueWork(x, 109, INT_LEAST, -1L, 4, -7L);
    Checks.dueWork(x, 127, LEAST, -1L, 4, -7L);
    Checks.dueWork(x, 109, 9L, 3L, 0, 3L);
  }

  private static final int[] NONE = {Integer.MIN_VALUE, -187, -106, -1, 0, 1, 68, 91, 102, 139, 166,
      168, 169, 170, 171, 174, 191, 197, 198, 255, 256, 325, 362, Integer.MAX_VALUE};

  private static void noInstructionAnswersMinusOne() {
    Checks.sentence("-1 c is none");
    for (int c : NONE) {
      Checks.due("work(" + c + ", 3, 4)", new WordArithmetic().work(c, 3L, 4L), -1L);
      Checks.due("work(" + c + ", 3, 0)", new WordArithmetic().work(c, 3L, 0L), -1L);
      Checks.due("work(" + c + ", least, -1)", new WordArithmetic().work(c, LEAST, -1L), -1L);
    }
  }

  private static void noInstructionLeavesTheResult() {
    Checks.sentence("-1 c is none (result() stays)");
    for (int c : NONE) {
      Checks.refuses(c, 3L, 4L, -1);
      Checks.refuses(c, 0L, 0L, -1);
    }
  }

  /** Bits above the lowest 32, all of which must count for nothing. */
  private static final long[] ABOVE =
      {TWO_TO_32, 7L * TWO_TO_32, LEAST, -TWO_TO_32, 0x5A5A5A5A00000000L};

  private static void lowest32BitsOfTwoIntsCount() {
    Checks.sentence("Of ints the lowest 32 bits of a and b count");
    // A shift by -7 is one by 25 places.
    long[] results = {0L, 1L, 0L, 1L, 1L, 0L, 0L, 1L, 1L, 0L,
        -4L, 10L, -21L, 0L, 0L, 3L, 3L, 1L, -5L, -6L, 100663296L, 0L, 0L, 100663296L, 384L};
    for (int i = 0; i < TAKING_TWO_INTS.length; i++) {
      int c = TAKING_TWO_INTS[i];
      for (long above : ABOVE) {
        Checks.gives(c, 3L ^ above, -7L, results[i]);
        Checks.gives(c, 3L, -7L ^ above, results[i]);
        Checks.gives(c, 3L ^ above, -7L ^ above, results[i]);
      }
    }
  }

  private static void lowest32BitsOfOneIntCount() {
    Checks.sentence("Of ints the lowest 32 bits of a count, of one value");
    long[] results = {0L, 0L, 3L, 27L, -200L, 4294967096L, 56L, -200L};
    for (int i = 0; i < TAKING_ONE_INT.length; i++) {
      for (long above : ABOVE) {
        Checks.gives(TAKING_ONE_INT[i], -200L ^ above, 0L, results[i]);
      }
    }
    for (long above : ABOVE) {
      Checks.gives(69, above, 0L, 1L);
      Checks.gives(103, above, 0L, 32L);
      Checks.gives(104, above, 0L, 32L);
      Checks.gives(105, above, 0L, 0L);
    }
  }

  private static void lowest32BitsDecideOnTraps() {
    Checks.sentence("Of ints the lowest 32 bits of a and b count, for the traps too");
    for (long above : ABOVE) {
      for (int c = 109; c <= 112; c++) {
        Checks.refuses(c, 5L, above, 3);
      }
      Checks.refuses(109, INT_LEAST ^ above, -1L, 4);
      Checks.refuses(109, INT_LEAST, -1L ^ above, 4);
      Checks.refuses(109, INT_LEAST ^ above, -1L ^ above, 4);
      Checks.gives(111, INT_LEAST ^ above, -1L ^ above, 0L);
    }
    Checks.gives(109, LEAST, -1L, 0L);
  }

  private static void allBitsOfLongsCount() {
    Checks.sentence("longs (L: 64 bits)");
    for (long above : ABOVE) {
      Checks.gives(80, above, 0L, 0L);
      Checks.gives(81, 3L ^ above, 3L, 0L);
      Checks.gives(81, 3L, 3L ^ above, 0L);
      Checks.gives(82, 3L ^ above, 3L, 1L);
      Checks.gives(128, 5L, above, 0L);
      Checks.gives(130, 5L, above, 5L);
      Checks.gives(132, 3L, above, 3L ^ above);
    }
  }
}
