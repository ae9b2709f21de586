/** Promise 5: work, by answers written out by hand: ordinary inputs, edges and wrong inputs. */
public final class WorkExamplesTest {
  private static final long INT_LEAST = -2147483648L;
  private static final long INT_MOST = 2147483647L;
  private static final long LEAST = Long.MIN_VALUE;
  private static final long MOST = Long.MAX_VALUE;

  public static void main(String[] args) {
    tests();
    intComparisons();
    longComparisons();
    counts();
    intArithmetic();
    longArithmetic();
    intDivisions();
    longDivisions();
    intShifts();
    longShifts();
    conversions();
    onlyTheLowest32BitsOfInts();
    oneValueIsA();
    traps();
    noInstruction();
    Checks.end();
  }

  private static void gives(int c, long a, long b, long result) {
    Checks.dueWork(new WordArithmetic(), c, a, b, 0, result);
  }

  private static void tests() {
    gives(69, 0L, 9L, 1L);
    gives(69, 5L, 0L, 0L);
    gives(69, INT_LEAST, 0L, 0L);
    gives(80, 0L, 9L, 1L);
    gives(80, 5L, 0L, 0L);
    gives(80, 4294967296L, 0L, 0L);
  }

  /** The answers of the ten comparisons from c on, in their order. */
  private static void compares(int c, long a, long b, String answers) {
    for (int i = 0; i < 10; i++) {
      gives(c + i, a, b, answers.charAt(i) - '0');
    }
  }

  private static void intComparisons() {
    compares(70, 4L, 4L, "1000001111");
    compares(70, 3L, 4L, "0111001100");
    compares(70, 4L, 3L, "0100110011");
    compares(70, -1L, 1L, "0110011001");
    compares(70, 1L, -1L, "0101100110");
    compares(70, INT_LEAST, INT_MOST, "0110011001");
    compares(70, -2L, -1L, "0111001100");
  }

  private static void longComparisons() {
    compares(81, 4L, 4L, "1000001111");
    compares(81, 3L, 4L, "0111001100");
    compares(81, 4L, 3L, "0100110011");
    compares(81, -1L, 1L, "0110011001");
    compares(81, LEAST, MOST, "0110011001");
    compares(81, 4294967296L, 0L, "0100110011");
    compares(81, 4294967295L, -1L, "0101100110");
  }

  private static void counts() {
    gives(103, 0L, 0L, 32L);
    gives(103, 1L, 0L, 31L);
    gives(103, -1L, 0L, 0L);
    gives(104, 0L, 0L, 32L);
    gives(104, INT_LEAST, 0L, 31L);
    gives(104, 1L, 0L, 0L);
    gives(105, 0L, 0L, 0L);
    gives(105, 255L, 0L, 8L);
    gives(105, -1L, 0L, 32L);
    gives(121, 0L, 0L, 64L);
    gives(121, 4294967296L, 0L, 31L);
    gives(121, -1L, 0L, 0L);
    gives(122, 0L, 0L, 64L);
    gives(122, LEAST, 0L, 63L);
    gives(122, 4294967296L, 0L, 32L);
    gives(123, 0L, 0L, 0L);
    gives(123, 4294967297L, 0L, 2L);
    gives(123, -1L, 0L, 64L);
  }

  private static void intArithmetic() {
    gives(106, 2L, 3L, 5L);
    gives(106, INT_MOST, 1L, INT_LEAST);
    gives(107, 2L, 3L, -1L);
    gives(107, INT_LEAST, 1L, INT_MOST);
    gives(108, -6L, 7L, -42L);
    gives(108, 65536L, 65536L, 0L);
    gives(108, INT_LEAST, -1L, INT_LEAST);
    gives(113, 12L, 10L, 8L);
    gives(114, 12L, 10L, 14L);
    gives(115, 12L, 10L, 6L);
    gives(115, -1L, 1L, -2L);
  }

  private static void longArithmetic() {
    gives(124, 2L, 3L, 5L);
    gives(124, INT_MOST, 1L, 2147483648L);
    gives(124, MOST, 1L, LEAST);
    gives(125, 2L, 3L, -1L);
    gives(125, LEAST, 1L, MOST);
    gives(126, 65536L, 65536L, 4294967296L);
    gives(126, 4294967296L, 4294967296L, 0L);
    gives(126, LEAST, -1L, LEAST);
    gives(131, 0xC00000000L, 0xA00000000L, 0x800000000L);
    gives(132, 0xC00000000L, 0xA00000000L, 0xE00000000L);
    gives(133, 0xC00000000L, 0xA00000000L, 0x600000000L);
  }

  private static void intDivisions() {
    gives(109, 7L, 2L, 3L);
    gives(109, -7L, 2L, -3L);
    gives(109, 7L, -2L, -3L);
    gives(109, INT_LEAST, 1L, INT_LEAST);
    gives(109, -2147483647L, -1L, INT_MOST);
    gives(110, -1L, 2L, INT_MOST);
    gives(110, INT_LEAST, -1L, 0L);
    gives(110, -1L, 1L, -1L);
    gives(111, 7L, -2L, 1L);
    gives(111, -7L, 2L, -1L);
    gives(111, INT_LEAST, -1L, 0L);
    gives(112, -1L, 10L, 5L);
    gives(112, INT_LEAST, -1L, INT_LEAST);
  }

  private static void longDivisions() {
    gives(127, 7L, 2L, 3L);
    gives(127, -7L, 2L, -3L);
    gives(127, INT_LEAST, -1L, 2147483648L);
    gives(127, LEAST, 1L, LEAST);
    gives(127, -MOST, -1L, MOST);
    gives(128, -1L, 2L, MOST);
    gives(128, -1L, 3L, 6148914691236517205L);
    gives(128, LEAST, -1L, 0L);
    gives(128, -1L, LEAST, 1L);
    gives(129, 7L, -2L, 1L);
    gives(129, -7L, 2L, -1L);
    gives(129, LEAST, -1L, 0L);
    gives(130, -1L, 10L, 5L);
    gives(130, LEAST, -1L, LEAST);
    gives(130, -1L, LEAST, MOST);
  }

  private static void intShifts() {
    gives(116, 1L, 31L, INT_LEAST);
    gives(116, 1L, 32L, 1L);
    gives(116, 1L, -1L, INT_LEAST);
    gives(117, -8L, 1L, -4L);
    gives(117, INT_LEAST, 63L, -1L);
    gives(118, -8L, 1L, 2147483644L);
    gives(118, -1L, 32L, -1L);
    gives(119, 305419896L, 8L, 878082066L);
    gives(119, INT_LEAST, 33L, 1L);
    gives(119, 5L, 0L, 5L);
    gives(120, 305419896L, 40L, 2014458966L);
    gives(120, 1L, 1L, INT_LEAST);
    gives(120, 5L, 32L, 5L);
  }

  private static void longShifts() {
    gives(134, 1L, 32L, 4294967296L);
    gives(134, 1L, 63L, LEAST);
    gives(134, 1L, 64L, 1L);
    gives(134, 1L, -1L, LEAST);
    gives(135, LEAST, 63L, -1L);
    gives(135, -8L, 65L, -4L);
    gives(136, LEAST, 63L, 1L);
    gives(136, -1L, 64L, -1L);
    gives(137, LEAST, 1L, 1L);
    gives(137, 5L, 4294967296L, 5L);
    gives(138, 1L, 1L, LEAST);
    gives(138, 5L, 64L, 5L);
  }

  private static void conversions() {
    gives(167, 4294967297L, 0L, 1L);
    gives(167, 2147483648L, 0L, INT_LEAST);
    gives(172, -5L, 0L, -5L);
    gives(172, 4294967295L, 0L, -1L);
    gives(173, -5L, 0L, 4294967291L);
    gives(173, -1L, 0L, 4294967295L);
    gives(173, 4294967296L, 0L, 0L);
    gives(192, 127L, 0L, 127L);
    gives(192, 128L, 0L, -128L);
    gives(192, 256L, 0L, 0L);
    gives(193, 32767L, 0L, 32767L);
    gives(193, 32768L, 0L, -32768L);
    gives(193, 65536L, 0L, 0L);
    gives(194, 127L, 0L, 127L);
    gives(194, 255L, 0L, -1L);
    gives(195, 32767L, 0L, 32767L);
    gives(195, 65535L, 0L, -1L);
    gives(196, INT_MOST, 0L, INT_MOST);
    gives(196, 4294967295L, 0L, -1L);
    gives(196, 4294967296L, 0L, 0L);
  }

  private static void onlyTheLowest32BitsOfInts() {
    gives(69, 4294967296L, 0L, 1L);
    gives(70, 4294967301L, 5L, 1L);
    gives(72, 4294967295L, 0L, 1L);
    gives(73, 4294967296L, 1L, 1L);
    gives(103, LEAST, 0L, 32L);
    gives(105, -4294967296L, 0L, 0L);
    gives(106, 4294967296L, 8589934597L, 5L);
    gives(109, 4294967295L, 1L, -1L);
    gives(118, 4294967296L, 1L, 0L);
    Checks.dueWork(new WordArithmetic(), 109, 5L, 4294967296L, 3, 0L);
    Checks.dueWork(new WordArithmetic(), 112, 5L, LEAST, 3, 0L);
    Checks.dueWork(new WordArithmetic(), 109, 2147483648L, 4294967295L, 4, 0L);
  }

  private static void oneValueIsA() {
    int[] takingOne = {69, 80, 103, 104, 105, 121, 122, 123, 167, 172, 173, 192, 193, 194, 195, 196};
    for (int c : takingOne) {
      WordArithmetic x = new WordArithmetic();
      x.work(c, 77L, 0L);
      gives(c, 77L, -1L, x.result());
      gives(c, 77L, LEAST, x.result());
    }
  }

  private static void traps() {
    int[] divisions = {109, 110, 111, 112, 127, 128, 129, 130};
    for (int c : divisions) {
      Checks.dueWork(new WordArithmetic(), c, 9L, 0L, 3, 0L);
      Checks.dueWork(new WordArithmetic(), c, 0L, 0L, 3, 0L);
      Checks.dueWork(new WordArithmetic(), c, -1L, 0L, 3, 0L);
      Checks.dueWork(new WordArithmetic(), c, LEAST, 0L, 3, 0L);
    }
    Checks.dueWork(new WordArithmetic(), 109, INT_LEAST, -1L, 4, 0L);
    Checks.dueWork(new WordArithmetic(), 127, LEAST, -1L, 4, 0L);
    gives(127, 4L, 4294967296L, 0L);
    gives(109, LEAST, -1L, 0L);
  }

  private static void noInstruction() {
    int[] none = {Integer.MIN_VALUE, -106, -1, 0, 68, 91, 102, 139, 166, 168, 171, 174, 191, 197,
        200, 362, Integer.MAX_VALUE};
    for (int c : none) {
      Checks.dueWork(new WordArithmetic(), c, 3L, 4L, -1, 0L);
      Checks.dueWork(new WordArithmetic(), c, 3L, 0L, -1, 0L);
    }
  }
}
