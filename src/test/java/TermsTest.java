/** The section "Terms": a test for each of its sentences, by answers written out by hand. */
public final class TermsTest {
  private static final long INT_LEAST = -2147483648L;
  private static final long INT_MOST = 2147483647L;
  private static final long LEAST = Long.MIN_VALUE;
  private static final long MOST = Long.MAX_VALUE;
  private static final long TWO_TO_32 = 4294967296L;
  private static final long HIGHEST_TWO_BITS = -4611686018427387904L;

  public static void main(String[] args) {
    bIsOnTop();
    intIsZero();
    intComparisons();
    intComparisonsWithoutSign();
    longIsZero();
    longComparisons();
    longComparisonsWithoutSign();
    answersOfLongComparisonsAreInts();
    intLeadingZeros();
    intTrailingZeros();
    intOnes();
    longLeadingZeros();
    longTrailingZeros();
    longOnes();
    intsWrap();
    intBits();
    intDivisionsCutTowardsZero();
    intDivisionsWithoutSign();
    intShiftsTakeFiveBits();
    longsWrap();
    longBits();
    longDivisionsCutTowardsZero();
    longDivisionsWithoutSign();
    longShiftsTakeSixBits();
    longToInt();
    intToLongWithSign();
    intToLongWithoutSign();
    intLowest8And16Bits();
    longLowest8Bits();
    longLowest16Bits();
    longLowest32Bits();
    divisorZeroTraps();
    leastByMinusOneTraps();
    restOfLeastByMinusOneIsZero();
    Checks.end();
  }

  private static void gives(int c, long a, long b, long result) {
    Checks.gives(c, a, b, result);
  }

  private static void bIsOnTop() {
    Checks.sentence("a and b, b being on top");
    gives(107, 10L, 3L, 7L);
    gives(125, 10L, 3L, 7L);
    gives(109, 10L, 3L, 3L);
    gives(127, 3L, 10L, 0L);
    gives(111, 3L, 10L, 3L);
    gives(129, 10L, 3L, 1L);
    gives(116, 1L, 4L, 16L);
    gives(134, 4L, 1L, 8L);
    gives(72, 1L, 2L, 1L);
    gives(83, 2L, 1L, 0L);
  }

  private static void intIsZero() {
    Checks.sentence("69 eqz (I: 1 if it is 0, else 0)");
    gives(69, 0L, 9L, 1L);
    gives(69, 1L, 0L, 0L);
    gives(69, -1L, 0L, 0L);
    gives(69, INT_MOST, 0L, 0L);
    gives(69, INT_LEAST, 0L, 0L);
  }

  /** The answers of the ten comparisons from c on, in their order. */
  private static void compares(int c, long a, long b, String answers) {
    for (int i = 0; i < 10; i++) {
      gives(c + i, a, b, answers.charAt(i) - '0');
    }
  }

  private static void intComparisons() {
    Checks.sentence("70 .. 79 eq ne lt_s lt_u gt_s gt_u le_s le_u ge_s ge_u (I I: 1 or 0)");
    compares(70, 4L, 4L, "1000001111");
    compares(70, 0L, 0L, "1000001111");
    compares(70, -1L, -1L, "1000001111");
    compares(70, INT_LEAST, INT_LEAST, "1000001111");
    compares(70, INT_MOST, INT_MOST, "1000001111");
    compares(70, 3L, 4L, "0111001100");
    compares(70, 4L, 3L, "0100110011");
    compares(70, -2L, -1L, "0111001100");
    compares(70, -1L, -2L, "0100110011");
    compares(70, INT_MOST - 1L, INT_MOST, "0111001100");
    compares(70, INT_LEAST + 1L, INT_LEAST, "0100110011");
  }

  private static void intComparisonsWithoutSign() {
    Checks.sentence("70 .. 79: _u without sign");
    compares(70, -1L, 1L, "0110011001");
    compares(70, 1L, -1L, "0101100110");
    compares(70, -1L, 0L, "0110011001");
    compares(70, 0L, -1L, "0101100110");
    compares(70, INT_LEAST, INT_MOST, "0110011001");
    compares(70, INT_MOST, INT_LEAST, "0101100110");
    compares(70, 0L, INT_LEAST, "0101100110");
  }

  private static void longIsZero() {
    Checks.sentence("80 likewise of L");
    gives(80, 0L, 9L, 1L);
    gives(80, 1L, 0L, 0L);
    gives(80, -1L, 0L, 0L);
    gives(80, MOST, 0L, 0L);
    gives(80, LEAST, 0L, 0L);
    gives(80, TWO_TO_32, 0L, 0L);
  }

  private static void longComparisons() {
    Checks.sentence("81 .. 90 likewise of L");
    compares(81, 4L, 4L, "1000001111");
    compares(81, 0L, 0L, "1000001111");
    compares(81, LEAST, LEAST, "1000001111");
    compares(81, MOST, MOST, "1000001111");
    compares(81, 3L, 4L, "0111001100");
    compares(81, 4L, 3L, "0100110011");
    compares(81, -2L, -1L, "0111001100");
    compares(81, MOST - 1L, MOST, "0111001100");
    compares(81, LEAST + 1L, LEAST, "0100110011");
    compares(81, TWO_TO_32, 0L, "0100110011");
    compares(81, INT_MOST, INT_MOST + 1L, "0111001100");
    compares(81, TWO_TO_32 + 5L, 5L, "0100110011");
  }

  private static void longComparisonsWithoutSign() {
    Checks.sentence("81 .. 90: _u without sign");
    compares(81, -1L, 1L, "0110011001");
    compares(81, 1L, -1L, "0101100110");
    compares(81, -1L, 0L, "0110011001");
    compares(81, LEAST, MOST, "0110011001");
    compares(81, MOST, LEAST, "0101100110");
    compares(81, TWO_TO_32 - 1L, -1L, "0101100110");
  }

  private static void answersOfLongComparisonsAreInts() {
    Checks.sentence("80, 81 .. 90 of L (the answers are ints)");
    for (int c = 80; c <= 90; c++) {
      Checks.due("leavesLong(" + c + ")", new WordArithmetic().leavesLong(c), false);
    }
  }

  private static void intLeadingZeros() {
    Checks.sentence("103 clz (I: how many bits are 0 above the highest 1; 32 for 0)");
    gives(103, 0L, 0L, 32L);
    gives(103, -1L, 0L, 0L);
    gives(103, INT_LEAST, 0L, 0L);
    gives(103, INT_MOST, 0L, 1L);
    for (int bit = 0; bit < 32; bit++) {
      gives(103, 1L << bit, 0L, 31 - bit);
      gives(103, (2L << bit) - 1L, 0L, 31 - bit);
    }
  }

  private static void intTrailingZeros() {
    Checks.sentence("104 ctz (I: how many bits are 0 below the lowest 1; 32 for 0)");
    gives(104, 0L, 0L, 32L);
    gives(104, -1L, 0L, 0L);
    gives(104, INT_LEAST, 0L, 31L);
    gives(104, INT_MOST, 0L, 0L);
    for (int bit = 0; bit < 32; bit++) {
      gives(104, 1L << bit, 0L, bit);
      gives(104, -1L << bit, 0L, bit);
    }
  }

  private static void intOnes() {
    Checks.sentence("105 popcnt (how many bits are 1)");
    gives(105, 0L, 0L, 0L);
    gives(105, -1L, 0L, 32L);
    gives(105, INT_LEAST, 0L, 1L);
    gives(105, INT_MOST, 0L, 31L);
    for (int bit = 0; bit < 32; bit++) {
      gives(105, 1L << bit, 0L, 1L);
      gives(105, (1L << bit) - 1L, 0L, bit);
    }
  }

  private static void longLeadingZeros() {
    Checks.sentence("121 clz of L (64 for 0; the answers are longs)");
    Checks.due("leavesLong(121)", new WordArithmetic().leavesLong(121), true);
    gives(121, 0L, 0L, 64L);
    gives(121, -1L, 0L, 0L);
    gives(121, MOST, 0L, 1L);
    gives(121, INT_MOST, 0L, 33L);
    for (int bit = 0; bit < 64; bit++) {
      gives(121, 1L << bit, 0L, 63 - bit);
      gives(121, -1L >>> bit, 0L, bit);
    }
  }

  private static void longTrailingZeros() {
    Checks.sentence("122 ctz of L (64 for 0; the answers are longs)");
    Checks.due("leavesLong(122)", new WordArithmetic().leavesLong(122), true);
    gives(122, 0L, 0L, 64L);
    gives(122, -1L, 0L, 0L);
    gives(122, LEAST, 0L, 63L);
    for (int bit = 0; bit < 64; bit++) {
      gives(122, 1L << bit, 0L, bit);
      gives(122, -1L << bit, 0L, bit);
    }
  }

  private static void longOnes() {
    Checks.sentence("123 popcnt of L (the answers are longs)");
    Checks.due("leavesLong(123)", new WordArithmetic().leavesLong(123), true);
    gives(123, 0L, 0L, 0L);
    gives(123, -1L, 0L, 64L);
    gives(123, LEAST, 0L, 1L);
    gives(123, MOST, 0L, 63L);
    for (int bit = 0; bit < 64; bit++) {
      gives(123, 1L << bit, 0L, 1L);
      gives(123, (1L << bit) - 1L, 0L, bit);
    }
  }

  private static void intsWrap() {
    Checks.sentence("106 add 107 sub 108 mul (I I: I; wrapping)");
    gives(106, INT_MOST, 0L, INT_MOST);
    gives(106, INT_MOST, 1L, INT_LEAST);
    gives(106, INT_MOST, INT_MOST, -2L);
    gives(106, INT_LEAST, -1L, INT_MOST);
    gives(106, INT_LEAST, INT_LEAST, 0L);
    gives(106, -1L, 1L, 0L);
    gives(107, INT_LEAST, 0L, INT_LEAST);
    gives(107, INT_LEAST, 1L, INT_MOST);
    gives(107, INT_MOST, -1L, INT_LEAST);
    gives(107, 0L, INT_LEAST, INT_LEAST);
    gives(107, -1L, INT_MOST, INT_LEAST);
    gives(108, 65536L, 32767L, 2147418112L);
    gives(108, 65536L, 32768L, INT_LEAST);
    gives(108, 65536L, 65536L, 0L);
    gives(108, INT_MOST, 2L, -2L);
    gives(108, INT_MOST, INT_MOST, 1L);
    gives(108, INT_LEAST, -1L, INT_LEAST);
    gives(108, INT_LEAST, INT_LEAST, 0L);
  }

  private static void intBits() {
    Checks.sentence("113 and 114 or 115 xor (I I: I)");
    gives(113, 12L, 10L, 8L);
    gives(113, -1L, INT_LEAST, INT_LEAST);
    gives(113, INT_MOST, INT_LEAST, 0L);
    gives(114, 12L, 10L, 14L);
    gives(114, INT_MOST, INT_LEAST, -1L);
    gives(115, 12L, 10L, 6L);
    gives(115, -1L, INT_MOST, INT_LEAST);
    gives(115, -1L, -1L, 0L);
  }

  private static void intDivisionsCutTowardsZero() {
    Checks.sentence("109 div_s 111 rem_s (I I: I; divisions cut towards 0)");
    gives(109, 7L, 2L, 3L);
    gives(109, -7L, 2L, -3L);
    gives(109, 7L, -2L, -3L);
    gives(109, -7L, -2L, 3L);
    gives(109, -1L, 2L, 0L);
    gives(109, 0L, -5L, 0L);
    gives(109, INT_LEAST, 1L, INT_LEAST);
    gives(109, INT_LEAST, INT_LEAST, 1L);
    gives(109, INT_LEAST, INT_MOST, -1L);
    gives(109, INT_MOST, INT_LEAST, 0L);
    gives(111, 7L, 2L, 1L);
    gives(111, -7L, 2L, -1L);
    gives(111, 7L, -2L, 1L);
    gives(111, -7L, -2L, -1L);
    gives(111, -1L, 2L, -1L);
    gives(111, INT_LEAST, INT_MOST, -1L);
    gives(111, INT_MOST, INT_LEAST, INT_MOST);
  }

  private static void intDivisionsWithoutSign() {
    Checks.sentence("110 div_u 112 rem_u (I I: I; _u without sign)");
    gives(110, 7L, 2L, 3L);
    gives(110, -1L, 1L, -1L);
    gives(110, -1L, 2L, INT_MOST);
    gives(110, -1L, -2L, 1L);
    gives(110, 5L, -2L, 0L);
    gives(110, INT_LEAST, -1L, 0L);
    gives(110, -1L, INT_LEAST, 1L);
    gives(110, INT_LEAST, INT_LEAST, 1L);
    gives(112, 7L, 2L, 1L);
    gives(112, -1L, 10L, 5L);
    gives(112, 5L, -2L, 5L);
    gives(112, INT_LEAST, -1L, INT_LEAST);
    gives(112, -1L, INT_LEAST, INT_MOST);
    gives(112, -1L, -1L, 0L);
  }

  /** The result for every b whose lowest bits are these places: above, below and far from them. */
  private static void shifts(int c, long a, long places, long width, long result) {
    gives(c, a, places, result);
    gives(c, a, places + width, result);
    gives(c, a, places + 3L * width, result);
    gives(c, a, places - width, result);
    gives(c, a, places + 1073741824L, result);
    gives(c, a, places + INT_LEAST, result);
    gives(c, a, places + TWO_TO_32, result);
    gives(c, a, places + LEAST, result);
  }

  private static void intShiftsTakeFiveBits() {
    Checks.sentence("116 shl 117 shr_s 118 shr_u 119 rotl 120 rotr: by the lowest 5 bits of b");
    long ends = INT_LEAST + 1L;
    for (int c = 116; c <= 120; c++) {
      shifts(c, ends, 0L, 32L, ends);
    }
    shifts(116, ends, 1L, 32L, 2L);
    shifts(116, ends, 31L, 32L, INT_LEAST);
    shifts(117, ends, 1L, 32L, -1073741824L);
    shifts(117, ends, 31L, 32L, -1L);
    shifts(118, ends, 1L, 32L, 1073741824L);
    shifts(118, ends, 31L, 32L, 1L);
    shifts(119, ends, 1L, 32L, 3L);
    shifts(119, ends, 31L, 32L, -1073741824L);
    shifts(120, ends, 1L, 32L, -1073741824L);
    shifts(120, ends, 31L, 32L, 3L);
    shifts(119, 305419896L, 8L, 32L, 878082066L);
    shifts(120, 305419896L, 8L, 32L, 2014458966L);
    shifts(117, INT_MOST, 30L, 32L, 1L);
  }

  private static void longsWrap() {
    Checks.sentence("124 add 125 sub 126 mul likewise of L: wrapping");
    gives(124, INT_MOST, 1L, 2147483648L);
    gives(124, TWO_TO_32 - 1L, 1L, TWO_TO_32);
    gives(124, MOST, 0L, MOST);
    gives(124, MOST, 1L, LEAST);
    gives(124, MOST, MOST, -2L);
    gives(124, LEAST, -1L, MOST);
    gives(124, LEAST, LEAST, 0L);
    gives(125, INT_LEAST, 1L, -2147483649L);
    gives(125, LEAST, 0L, LEAST);
    gives(125, LEAST, 1L, MOST);
    gives(125, MOST, -1L, LEAST);
    gives(125, 0L, LEAST, LEAST);
    gives(126, 65536L, 65536L, TWO_TO_32);
    gives(126, TWO_TO_32, INT_MOST, 9223372032559808512L);
    gives(126, TWO_TO_32, 2147483648L, LEAST);
    gives(126, TWO_TO_32, TWO_TO_32, 0L);
    gives(126, MOST, 2L, -2L);
    gives(126, MOST, MOST, 1L);
    gives(126, LEAST, -1L, LEAST);
  }

  private static void longBits() {
    Checks.sentence("131 and 132 or 133 xor likewise of L");
    gives(131, 0xC00000000L, 0xA00000000L, 0x800000000L);
    gives(131, -1L, LEAST, LEAST);
    gives(131, MOST, LEAST, 0L);
    gives(132, 0xC00000000L, 0xA00000000L, 0xE00000000L);
    gives(132, MOST, LEAST, -1L);
    gives(133, 0xC00000000L, 0xA00000000L, 0x600000000L);
    gives(133, -1L, MOST, LEAST);
    gives(133, -1L, -1L, 0L);
  }

  private static void longDivisionsCutTowardsZero() {
    Checks.sentence("127 div_s 129 rem_s likewise of L: divisions cut towards 0");
    gives(127, 7L, 2L, 3L);
    gives(127, -7L, 2L, -3L);
    gives(127, 7L, -2L, -3L);
    gives(127, -7L, -2L, 3L);
    gives(127, -1L, 2L, 0L);
    gives(127, TWO_TO_32, 2L, 2147483648L);
    gives(127, LEAST, 1L, LEAST);
    gives(127, LEAST, LEAST, 1L);
    gives(127, LEAST, MOST, -1L);
    gives(127, MOST, LEAST, 0L);
    gives(129, 7L, 2L, 1L);
    gives(129, -7L, 2L, -1L);
    gives(129, 7L, -2L, 1L);
    gives(129, -7L, -2L, -1L);
    gives(129, -1L, 2L, -1L);
    gives(129, LEAST, MOST, -1L);
    gives(129, MOST, LEAST, MOST);
  }

  private static void longDivisionsWithoutSign() {
    Checks.sentence("128 div_u 130 rem_u likewise of L: _u without sign");
    gives(128, 7L, 2L, 3L);
    gives(128, -1L, 1L, -1L);
    gives(128, -1L, 2L, MOST);
    gives(128, -1L, 3L, 6148914691236517205L);
    gives(128, -1L, -2L, 1L);
    gives(128, 5L, -2L, 0L);
    gives(128, LEAST, -1L, 0L);
    gives(128, -1L, LEAST, 1L);
    gives(128, LEAST, LEAST, 1L);
    gives(130, 7L, 2L, 1L);
    gives(130, -1L, 10L, 5L);
    gives(130, 5L, -2L, 5L);
    gives(130, LEAST, -1L, LEAST);
    gives(130, -1L, LEAST, MOST);
    gives(130, -1L, -1L, 0L);
  }

  private static void longShiftsTakeSixBits() {
    Checks.sentence("134 .. 138 likewise of L (by the lowest 6 bits)");
    long ends = LEAST + 1L;
    for (int c = 134; c <= 138; c++) {
      shifts(c, ends, 0L, 64L, ends);
    }
    shifts(134, ends, 1L, 64L, 2L);
    shifts(134, ends, 32L, 64L, TWO_TO_32);
    shifts(134, ends, 63L, 64L, LEAST);
    shifts(135, ends, 1L, 64L, HIGHEST_TWO_BITS);
    shifts(135, ends, 32L, 64L, INT_LEAST);
    shifts(135, ends, 63L, 64L, -1L);
    shifts(136, ends, 1L, 64L, 4611686018427387904L);
    shifts(136, ends, 32L, 64L, 2147483648L);
    shifts(136, ends, 63L, 64L, 1L);
    shifts(137, ends, 1L, 64L, 3L);
    shifts(137, ends, 32L, 64L, 6442450944L);
    shifts(137, ends, 63L, 64L, HIGHEST_TWO_BITS);
    shifts(138, ends, 1L, 64L, HIGHEST_TWO_BITS);
    shifts(138, ends, 32L, 64L, 6442450944L);
    shifts(138, ends, 63L, 64L, 3L);
    shifts(135, MOST, 62L, 64L, 1L);
  }

  private static void longToInt() {
    Checks.sentence("167 (L: its lowest 32 bits as an int)");
    gives(167, 5L, 0L, 5L);
    gives(167, INT_MOST, 0L, INT_MOST);
    gives(167, INT_MOST + 1L, 0L, INT_LEAST);
    gives(167, TWO_TO_32 - 1L, 0L, -1L);
    gives(167, TWO_TO_32, 0L, 0L);
    gives(167, TWO_TO_32 + 1L, 0L, 1L);
    gives(167, INT_LEAST - 1L, 0L, INT_MOST);
    gives(167, LEAST, 0L, 0L);
    gives(167, MOST, 0L, -1L);
  }

  private static void intToLongWithSign() {
    Checks.sentence("172 (I: a long, with the sign)");
    gives(172, 0L, 0L, 0L);
    gives(172, -1L, 0L, -1L);
    gives(172, INT_MOST, 0L, INT_MOST);
    gives(172, INT_LEAST, 0L, INT_LEAST);
    gives(172, INT_MOST + 1L, 0L, INT_LEAST);
    gives(172, TWO_TO_32 - 1L, 0L, -1L);
    gives(172, TWO_TO_32, 0L, 0L);
  }

  private static void intToLongWithoutSign() {
    Checks.sentence("173 (I: a long from 0 to 4294967295)");
    gives(173, 0L, 0L, 0L);
    gives(173, -1L, 0L, 4294967295L);
    gives(173, INT_MOST, 0L, INT_MOST);
    gives(173, INT_LEAST, 0L, 2147483648L);
    gives(173, TWO_TO_32 - 1L, 0L, 4294967295L);
    gives(173, TWO_TO_32, 0L, 0L);
    gives(173, LEAST, 0L, 0L);
  }

  /** Extensions at both ends of their halves, and with all bits above set and not set. */
  private static void extendsFrom(int c, long half) {
    gives(c, 0L, 0L, 0L);
    gives(c, half - 1L, 0L, half - 1L);
    gives(c, half, 0L, -half);
    gives(c, 2L * half - 1L, 0L, -1L);
    gives(c, 2L * half, 0L, 0L);
    gives(c, 3L * half - 1L, 0L, half - 1L);
    gives(c, 3L * half, 0L, -half);
    gives(c, -1L, 0L, -1L);
    gives(c, -half, 0L, -half);
    gives(c, -half - 1L, 0L, half - 1L);
    gives(c, -2L * half, 0L, 0L);
    gives(c, LEAST, 0L, 0L);
    gives(c, MOST, 0L, -1L);
  }

  private static void intLowest8And16Bits() {
    Checks.sentence("192, 193 (I: its lowest 8, 16 bits with their sign)");
    extendsFrom(192, 128L);
    extendsFrom(193, 32768L);
  }

  private static void longLowest8Bits() {
    Checks.sentence("194 (L: its lowest 8 bits with their sign)");
    extendsFrom(194, 128L);
  }

  private static void longLowest16Bits() {
    Checks.sentence("195 (L: its lowest 16 bits with their sign)");
    extendsFrom(195, 32768L);
  }

  private static void longLowest32Bits() {
    Checks.sentence("196 (L: its lowest 32 bits with their sign)");
    extendsFrom(196, 2147483648L);
  }

  private static void divisorZeroTraps() {
    Checks.sentence("TRAPS: 3 a division or rest with b 0");
    int[] divisions = {109, 110, 111, 112, 127, 128, 129, 130};
    long[] dividends = {0L, 9L, -1L, INT_LEAST, INT_MOST, LEAST, MOST};
    for (int c : divisions) {
      for (long a : dividends) {
        Checks.refuses(c, a, 0L, 3);
      }
      gives(c, 1L, 1L, c == 109 || c == 110 || c == 127 || c == 128 ? 1L : 0L);
    }
    gives(127, 4L, TWO_TO_32, 0L);
    gives(129, 4L, TWO_TO_32, 4L);
  }

  private static void leastByMinusOneTraps() {
    Checks.sentence("TRAPS: 4 div_s of the least number by -1");
    Checks.refuses(109, INT_LEAST, -1L, 4);
    Checks.refuses(127, LEAST, -1L, 4);
    gives(109, INT_LEAST + 1L, -1L, INT_MOST);
    gives(109, INT_LEAST, -2L, 1073741824L);
    gives(109, INT_MOST, -1L, INT_LEAST + 1L);
    gives(127, LEAST + 1L, -1L, MOST);
    gives(127, LEAST, -2L, 4611686018427387904L);
    gives(127, MOST, -1L, LEAST + 1L);
    gives(127, INT_LEAST, -1L, 2147483648L);
    gives(110, INT_LEAST, -1L, 0L);
    gives(128, LEAST, -1L, 0L);
  }

  private static void restOfLeastByMinusOneIsZero() {
    Checks.sentence("TRAPS: rem_s of it by -1 is 0");
    gives(111, INT_LEAST, -1L, 0L);
    gives(129, LEAST, -1L, 0L);
    WordArithmetic x = new WordArithmetic();
    Checks.dueWork(x, 124, 40L, 2L, 0, 42L);
    Checks.dueWork(x, 111, INT_LEAST, -1L, 0, 0L);
    Checks.dueWork(x, 124, 40L, 2L, 0, 42L);
    Checks.dueWork(x, 129, LEAST, -1L, 0, 0L);
  }
}
