/** Counts answers that are not the due ones, for the tests beside it. */
final class Checks {
  private static int made = 0;
  private static int wrong = 0;

  private Checks() {}

  static void due(String call, long got, long want) {
    made++;
    if (got != want) {
      wrong++;
      System.out.println(call + " answered " + got + ", due is " + want);
    }
  }

  static void due(String call, boolean got, boolean want) {
    due(call, got ? 1L : 0L, want ? 1L : 0L);
  }

  /** Works c out on x and looks at the answer and at the result that then stands. */
  static void dueWork(WordArithmetic x, int c, long a, long b, int answer, long result) {
    String call = "work(" + c + ", " + a + ", " + b + ")";
    due(call, x.work(c, a, b), answer);
    due("result() after " + call, x.result(), result);
  }

  static void end() {
    System.out.println(made + " answers looked at, " + wrong + " not as due");
    if (wrong != 0 || made == 0) {
      System.exit(1);
    }
  }
}
