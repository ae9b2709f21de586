import java.math.BigInteger;

/**
 * Promises 5 and 6: work and result of every instruction over a grid of values, against numbers
 * without a width (BigInteger), which are cut to 32 or 64 bits only at the end.
 */
public final class WorkReferenceTest {
  private static final int CALLS_OF_ONE_OBJECT = 512;
  private static final String[] COMPARISONS =
      {"eq", "ne", "lt_s", "lt_u", "gt_s", "gt_u", "le_s", "le_u", "ge_s", "ge_u"};
  private static final String[] ARITHMETIC = {"add", "sub", "mul", "div_s", "div_u", "rem_s",
      "rem_u", "and", "or", "xor", "shl", "shr_s", "shr_u", "rotl", "rotr"};

  private static WordArithmetic x = new WordArithmetic();
  private static int calls = 0;
  private static long standing = 0L;

  public static void main(String[] args) {
    long[] values = values();
    for (int c = 60; c <= 200; c++) {
      for (long a : values) {
        for (long b : values) {
          look(c, a, b);
        }
      }
    }
    Checks.end();
  }

  /** Edges of both widths with their neighbours, every power of two, and some mixed bits. */
  private static long[] values() {
    long[] values = new long[64 * 4 + 40];
    int n = 0;
    for (int bit = 0; bit < 64; bit++) {
      long power = 1L << bit;
      values[n++] = power;
      values[n++] = power - 1;
      values[n++] = -power;
      values[n++] = -power - 1;
    }
    long mixed = 0x9E3779B97F4A7C15L;
    while (n < values.length) {
      mixed = mixed * 6364136223846793005L + 1442695040888963407L;
      values[n++] = mixed ^ (mixed >>> 29);
    }
    return values;
  }

  private static void look(int c, long a, long b) {
    if (calls + 2 > CALLS_OF_ONE_OBJECT) {
      x = new WordArithmetic();
      calls = 0;
      standing = 0L;
    }
    calls += 2;
    int answer = answer(c, a, b);
    if (answer == 0) {
      standing = result(c, a, b);
    }
    int got = x.work(c, a, b);
    long result = x.result();
    if (got != answer || result != standing) {
      String call = "work(" + c + ", " + a + ", " + b + ")";
      Checks.due(call, got, answer);
      Checks.due("result() after " + call, result, standing);
    } else {
      Checks.due("work", 0L, 0L);
    }
  }

  private static String name(int c) {
    if (c == 69 || c == 80) return "eqz";
    if (c >= 70 && c <= 79) return COMPARISONS[c - 70];
    if (c >= 81 && c <= 90) return COMPARISONS[c - 81];
    if (c == 103 || c == 121) return "clz";
    if (c == 104 || c == 122) return "ctz";
    if (c == 105 || c == 123) return "popcnt";
    if (c >= 106 && c <= 120) return ARITHMETIC[c - 106];
    if (c >= 124 && c <= 138) return ARITHMETIC[c - 124];
    if (c == 192 || c == 194) return "low8";
    if (c == 193 || c == 195) return "low16";
    if (c == 167 || c == 172 || c == 196) return "low32";
    if (c == 173) return "unsigned32";
    return "";
  }

  private static boolean ofLongs(int c) {
    return (c >= 80 && c <= 90) || (c >= 121 && c <= 138) || c == 167 || (c >= 194 && c <= 196);
  }

  private static BigInteger unsigned(long v, int bits) {
    return BigInteger.valueOf(v).mod(BigInteger.ONE.shiftLeft(bits));
  }

  private static BigInteger signed(BigInteger v, int bits) {
    BigInteger low = v.mod(BigInteger.ONE.shiftLeft(bits));
    return low.testBit(bits - 1) ? low.subtract(BigInteger.ONE.shiftLeft(bits)) : low;
  }

  private static int answer(int c, long a, long b) {
    String name = name(c);
    int bits = ofLongs(c) ? 64 : 32;
    if (name.isEmpty()) return -1;
    if (!name.startsWith("div") && !name.startsWith("rem")) return 0;
    if (unsigned(b, bits).signum() == 0) return 3;
    boolean least = unsigned(a, bits).equals(BigInteger.ONE.shiftLeft(bits - 1));
    boolean minusOne = unsigned(b, bits).bitCount() == bits;
    return name.equals("div_s") && least && minusOne ? 4 : 0;
  }

  private static long result(int c, long a, long b) {
    int bits = ofLongs(c) ? 64 : 32;
    BigInteger ua = unsigned(a, bits);
    BigInteger ub = unsigned(b, bits);
    BigInteger sa = signed(ua, bits);
    BigInteger sb = signed(ub, bits);
    int places = ub.mod(BigInteger.valueOf(bits)).intValue();
    switch (name(c)) {
      case "eqz": return ua.signum() == 0 ? 1L : 0L;
      case "eq": return ua.equals(ub) ? 1L : 0L;
      case "ne": return ua.equals(ub) ? 0L : 1L;
      case "lt_s": return sa.compareTo(sb) < 0 ? 1L : 0L;
      case "lt_u": return ua.compareTo(ub) < 0 ? 1L : 0L;
      case "gt_s": return sa.compareTo(sb) > 0 ? 1L : 0L;
      case "gt_u": return ua.compareTo(ub) > 0 ? 1L : 0L;
      case "le_s": return sa.compareTo(sb) <= 0 ? 1L : 0L;
      case "le_u": return ua.compareTo(ub) <= 0 ? 1L : 0L;
      case "ge_s": return sa.compareTo(sb) >= 0 ? 1L : 0L;
      case "ge_u": return ua.compareTo(ub) >= 0 ? 1L : 0L;
      case "clz": return bits - ua.bitLength();
      case "ctz": return ua.signum() == 0 ? bits : ua.getLowestSetBit();
      case "popcnt": return ua.bitCount();
      case "low8": return signed(ua, 8).longValueExact();
      case "low16": return signed(ua, 16).longValueExact();
      case "low32": return signed(ua, 32).longValueExact();
      case "unsigned32": return ua.longValueExact();
      default: return signed(arithmetic(name(c), ua, ub, places, bits), bits).longValueExact();
    }
  }

  private static BigInteger arithmetic(
      String name, BigInteger ua, BigInteger ub, int places, int bits) {
    BigInteger sa = signed(ua, bits);
    BigInteger sb = signed(ub, bits);
    switch (name) {
      case "add": return ua.add(ub);
      case "sub": return ua.subtract(ub);
      case "mul": return ua.multiply(ub);
      case "div_s": return sa.divide(sb);
      case "div_u": return ua.divide(ub);
      case "rem_s": return sa.remainder(sb);
      case "rem_u": return ua.remainder(ub);
      case "and": return ua.and(ub);
      case "or": return ua.or(ub);
      case "xor": return ua.xor(ub);
      case "shl": return ua.shiftLeft(places);
      case "shr_s": return sa.shiftRight(places);
      case "shr_u": return ua.shiftRight(places);
      case "rotl": return ua.shiftLeft(places).or(ua.shiftRight(bits - places));
      case "rotr": return ua.shiftRight(places).or(ua.shiftLeft(bits - places));
      default: throw new IllegalStateException(name);
    }
  }
}
