/** What the instructions of a stack machine do with numbers of 32 and 64 bits. */
public final class WordArithmetic {
  private static final int DONE = 0;
  private static final int TRAP_DIVISOR_ZERO = 3;
  private static final int TRAP_QUOTIENT_TOO_LARGE = 4;
  private static final int NO_INSTRUCTION = -1;

  private static final int INT_EQZ = 69;
  private static final int EQ = 70;
  private static final int NE = 71;
  private static final int LT_S = 72;
  private static final int LT_U = 73;
  private static final int GT_S = 74;
  private static final int GT_U = 75;
  private static final int LE_S = 76;
  private static final int LE_U = 77;
  private static final int GE_S = 78;
  private static final int GE_U = 79;
  private static final int LONG_EQZ = 80;

  private static final int INT_CLZ = 103;
  private static final int INT_CTZ = 104;
  private static final int INT_POPCNT = 105;
  private static final int LONG_CLZ = 121;
  private static final int LONG_CTZ = 122;
  private static final int LONG_POPCNT = 123;

  private static final int ADD = 106;
  private static final int SUB = 107;
  private static final int MUL = 108;
  private static final int DIV_S = 109;
  private static final int DIV_U = 110;
  private static final int REM_S = 111;
  private static final int REM_U = 112;
  private static final int AND = 113;
  private static final int OR = 114;
  private static final int XOR = 115;
  private static final int SHL = 116;
  private static final int SHR_S = 117;
  private static final int SHR_U = 118;
  private static final int ROTL = 119;
  private static final int ROTR = 120;

  private static final int LONG_TO_INT = 167;
  private static final int INT_TO_LONG_S = 172;
  private static final int INT_TO_LONG_U = 173;
  private static final int INT_EXTEND_8 = 192;
  private static final int INT_EXTEND_16 = 193;
  private static final int LONG_EXTEND_8 = 194;
  private static final int LONG_EXTEND_16 = 195;
  private static final int LONG_EXTEND_32 = 196;

  // The instructions of longs stand in the same order as those of ints, this much higher.
  private static final int LONG_COMPARISONS_ABOVE = 11;
  private static final int LONG_ARITHMETIC_ABOVE = 18;

  private static final long LOWEST_32_BITS = 0xFFFFFFFFL;

  private long latest;

  public WordArithmetic() {
    latest = 0L;
  }

  public int takes(int c) {
    if (takesOne(c)) {
      return 1;
    }
    return takesTwo(c) ? 2 : 0;
  }

  public boolean takesLongs(int c) {
    return c == LONG_EQZ
        || isLongComparison(c)
        || isLongCount(c)
        || isLongArithmetic(c)
        || c == LONG_TO_INT
        || isLongExtension(c);
  }

  public boolean leavesLong(int c) {
    return isLongCount(c)
        || isLongArithmetic(c)
        || isIntToLong(c)
        || isLongExtension(c);
  }

  public int work(int c, long a, long b) {
    if (takesOne(c)) {
      return keep(ofOne(c, a));
    }
    if (isIntComparison(c)) {
      return keep(truth(holds(c, (int) a, (int) b)));
    }
    if (isLongComparison(c)) {
      return keep(truth(holds(c - LONG_COMPARISONS_ABOVE, a, b)));
    }
    if (isIntArithmetic(c)) {
      return workInts(c, (int) a, (int) b);
    }
    if (isLongArithmetic(c)) {
      return workLongs(c - LONG_ARITHMETIC_ABOVE, a, b);
    }
    return NO_INSTRUCTION;
  }

  public long result() {
    return latest;
  }

  private int keep(long value) {
    latest = value;
    return DONE;
  }

  private static boolean takesOne(int c) {
    return c == INT_EQZ
        || c == LONG_EQZ
        || isIntCount(c)
        || isLongCount(c)
        || c == LONG_TO_INT
        || isIntToLong(c)
        || isIntExtension(c)
        || isLongExtension(c);
  }

  private static boolean takesTwo(int c) {
    return isIntComparison(c)
        || isLongComparison(c)
        || isIntArithmetic(c)
        || isLongArithmetic(c);
  }

  private static boolean isIntComparison(int c) {
    return c >= EQ && c <= GE_U;
  }

  private static boolean isLongComparison(int c) {
    return c >= EQ + LONG_COMPARISONS_ABOVE && c <= GE_U + LONG_COMPARISONS_ABOVE;
  }

  private static boolean isIntCount(int c) {
    return c >= INT_CLZ && c <= INT_POPCNT;
  }

  private static boolean isLongCount(int c) {
    return c >= LONG_CLZ && c <= LONG_POPCNT;
  }

  private static boolean isIntArithmetic(int c) {
    return c >= ADD && c <= ROTR;
  }

  private static boolean isLongArithmetic(int c) {
    return c >= ADD + LONG_ARITHMETIC_ABOVE && c <= ROTR + LONG_ARITHMETIC_ABOVE;
  }

  private static boolean isIntToLong(int c) {
    return c == INT_TO_LONG_S || c == INT_TO_LONG_U;
  }

  private static boolean isIntExtension(int c) {
    return c == INT_EXTEND_8 || c == INT_EXTEND_16;
  }

  private static boolean isLongExtension(int c) {
    return c >= LONG_EXTEND_8 && c <= LONG_EXTEND_32;
  }

  private static boolean isDivision(int operation) {
    return operation >= DIV_S && operation <= REM_U;
  }

  private static long truth(boolean holds) {
    return holds ? 1L : 0L;
  }

  private static long ofOne(int c, long a) {
    switch (c) {
      case INT_EQZ:
        return truth((int) a == 0);
      case LONG_EQZ:
        return truth(a == 0L);
      case INT_CLZ:
        return Integer.numberOfLeadingZeros((int) a);
      case INT_CTZ:
        return Integer.numberOfTrailingZeros((int) a);
      case INT_POPCNT:
        return Integer.bitCount((int) a);
      case LONG_CLZ:
        return Long.numberOfLeadingZeros(a);
      case LONG_CTZ:
        return Long.numberOfTrailingZeros(a);
      case LONG_POPCNT:
        return Long.bitCount(a);
      case INT_TO_LONG_U:
        return a & LOWEST_32_BITS;
      case INT_EXTEND_8:
      case LONG_EXTEND_8:
        return (byte) a;
      case INT_EXTEND_16:
      case LONG_EXTEND_16:
        return (short) a;
      default:
        // What is left, LONG_TO_INT, INT_TO_LONG_S and LONG_EXTEND_32, differs in kind alone.
        return (int) a;
    }
  }

  // Serves ints too: widening with the sign keeps their order, both with and without sign.
  private static boolean holds(int comparison, long a, long b) {
    switch (comparison) {
      case EQ:
        return a == b;
      case NE:
        return a != b;
      case LT_S:
        return a < b;
      case LT_U:
        return Long.compareUnsigned(a, b) < 0;
      case GT_S:
        return a > b;
      case GT_U:
        return Long.compareUnsigned(a, b) > 0;
      case LE_S:
        return a <= b;
      case LE_U:
        return Long.compareUnsigned(a, b) <= 0;
      case GE_S:
        return a >= b;
      default:
        return Long.compareUnsigned(a, b) >= 0;
    }
  }

  private int workInts(int operation, int a, int b) {
    if (isDivision(operation)) {
      return divideInts(operation, a, b);
    }
    return keep(ofInts(operation, a, b));
  }

  private int workLongs(int operation, long a, long b) {
    if (isDivision(operation)) {
      return divideLongs(operation, a, b);
    }
    return keep(ofLongs(operation, a, b));
  }

  private int divideInts(int operation, int a, int b) {
    if (b == 0) {
      return TRAP_DIVISOR_ZERO;
    }
    switch (operation) {
      case DIV_S:
        if (a == Integer.MIN_VALUE && b == -1) {
          return TRAP_QUOTIENT_TOO_LARGE;
        }
        return keep(a / b);
      case DIV_U:
        return keep(Integer.divideUnsigned(a, b));
      case REM_S:
        return keep(a % b);
      default:
        return keep(Integer.remainderUnsigned(a, b));
    }
  }

  private int divideLongs(int operation, long a, long b) {
    if (b == 0L) {
      return TRAP_DIVISOR_ZERO;
    }
    switch (operation) {
      case DIV_S:
        if (a == Long.MIN_VALUE && b == -1L) {
          return TRAP_QUOTIENT_TOO_LARGE;
        }
        return keep(a / b);
      case DIV_U:
        return keep(Long.divideUnsigned(a, b));
      case REM_S:
        return keep(a % b);
      default:
        return keep(Long.remainderUnsigned(a, b));
    }
  }

  // Java's own shifts and rotations of ints look at the lowest 5 bits of b alone.
  private static int ofInts(int operation, int a, int b) {
    switch (operation) {
      case ADD:
        return a + b;
      case SUB:
        return a - b;
      case MUL:
        return a * b;
      case AND:
        return a & b;
      case OR:
        return a | b;
      case XOR:
        return a ^ b;
      case SHL:
        return a << b;
      case SHR_S:
        return a >> b;
      case SHR_U:
        return a >>> b;
      case ROTL:
        return Integer.rotateLeft(a, b);
      default:
        return Integer.rotateRight(a, b);
    }
  }

  private static long ofLongs(int operation, long a, long b) {
    // The rotations want an int, so the lowest 6 bits are taken before b is cast.
    int places = (int) (b & 63L);
    switch (operation) {
      case ADD:
        return a + b;
      case SUB:
        return a - b;
      case MUL:
        return a * b;
      case AND:
        return a & b;
      case OR:
        return a | b;
      case XOR:
        return a ^ b;
      case SHL:
        return a << places;
      case SHR_S:
        return a >> places;
      case SHR_U:
        return a >>> places;
      case ROTL:
        return Long.rotateLeft(a, places);
      default:
        return Long.rotateRight(a, places);
    }
  }
}
