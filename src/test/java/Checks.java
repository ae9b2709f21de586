/** Counts answers that are not the due ones, for the tests beside it. */
final class Checks {
  private static int made = 0;
  private static int wrong = 0;
  private static String sentence = "";
  private static int madeBeforeSentence = 0;

  private Checks() {}

  /** The document's sentence that the checks from here on guard; wrong answers are told with it. */
  static void sentence(String text) {
    endSentence();
    sentence = text;
    madeBeforeSentence = made;
  }

  static void due(String call, long got, long want) {
    made++;
    if (got != want) {
      wrong++;
      System.out.println("[" + sentence + "] " + call + " answered " + got + ", due is " + want);
    }
  }

  static void due(String call, boolean got, boolean want) {
    due(call, got ? 1L : 0L, want ? 1L : 0L);
  }

  /** Works c out on x and looks at the answer and at the result that then stands. */
  static void dueWork(WordArithmetic x, int c, long a, long b, int answer, long result) {
    String call = "work(" + c + ", " + a + ", " + b + ")";
    due(call, x.work(c, a, b), answer);
    due("result() after " + call, x.result(), result);
  }

  /** On a new object: c is worked out and leaves this result. */
  static void gives(int c, long a, long b, long result) {
    dueWork(new WordArithmetic(), c, a, b, 0, result);
  }

  /** The result that stood before a trap, which no instruction of these tests leaves by chance. */
  private static final long STOOD = 0x5A5A5A5A5A5A5A5AL;

  /** On an object with a result: c answers this, which is a trap or -1, and the result stays. */
  static void refuses(int c, long a, long b, int answer) {
    WordArithmetic x = new WordArithmetic();
    dueWork(x, 132, STOOD, 0L, 0, STOOD);
    dueWork(x, c, a, b, answer, STOOD);
  }

  static void end() {
    endSentence();
    System.out.println(made + " answers looked at, " + wrong + " not as due");
    if (wrong != 0 || made == 0) {
      System.exit(1);
    }
  }

  /** A sentence that nothing guards is a fault of the test. */
  private static void endSentence() {
    if (!sentence.isEmpty() && made == madeBeforeSentence) {
      wrong++;
      System.out.println("[" + sentence + "] nothing was looked at");
    }
  }
}
