/** Promise 6: result is the latest result, an int with its sign; nothing else moves it. */
public final class ResultTest {
  private static final long INT_LEAST = -2147483648L;

  public static void main(String[] args) {
    askingTwiceAnswersTheSame();
    laterResultsTakeItsPlace();
    refusedCallsLeaveTheLatest();
    questionsLeaveIt();
    intsHaveTheirSign();
    longsAreWhole();
    Checks.end();
  }

  private static void askingTwiceAnswersTheSame() {
    Checks.sentence("The latest result: asked twice");
    WordArithmetic x = new WordArithmetic();
    x.work(106, 20L, 22L);
    Checks.due("result()", x.result(), 42L);
    Checks.due("result() again", x.result(), 42L);
  }

  private static void laterResultsTakeItsPlace() {
    Checks.sentence("The latest result: a later one takes the place of an earlier one");
    WordArithmetic x = new WordArithmetic();
    Checks.dueWork(x, 124, 4294967296L, 1L, 0, 4294967297L);
    Checks.dueWork(x, 70, 1L, 1L, 0, 1L);
    Checks.dueWork(x, 70, 1L, 2L, 0, 0L);
    Checks.dueWork(x, 173, -1L, 0L, 0, 4294967295L);
    x.work(106, 1L, 1L);
    x.work(106, 2L, 2L);
    Checks.due("result() after two that were not asked for", x.result(), 4L);
  }

  private static void refusedCallsLeaveTheLatest() {
    Checks.sentence("The latest result: traps and wrong numbers have none");
    WordArithmetic x = new WordArithmetic();
    Checks.dueWork(x, 124, 40L, 2L, 0, 42L);
    Checks.dueWork(x, 109, 5L, 0L, 3, 42L);
    Checks.dueWork(x, 127, Long.MIN_VALUE, -1L, 4, 42L);
    Checks.dueWork(x, 0, 5L, 5L, -1, 42L);
    Checks.dueWork(x, 200, 5L, 5L, -1, 42L);
    Checks.dueWork(x, -1, 5L, 0L, -1, 42L);
    Checks.dueWork(x, 111, INT_LEAST, -1L, 0, 0L);
  }

  private static void questionsLeaveIt() {
    Checks.sentence("The latest result: questions have none");
    WordArithmetic x = new WordArithmetic();
    x.work(125, 1L, 10L);
    for (int c = 60; c <= 140; c++) {
      x.takes(c);
      x.takesLongs(c);
      x.leavesLong(c);
    }
    Checks.due("result() after questions", x.result(), -9L);
  }

  /** Each instruction that leaves an int, but for 1 or 0 and counts, once with the highest bit. */
  private static void intsHaveTheirSign() {
    Checks.sentence("an int with its sign");
    Checks.gives(106, 2147483647L, 1L, INT_LEAST);
    Checks.gives(107, 0L, 1L, -1L);
    Checks.gives(108, 65536L, 32768L, INT_LEAST);
    Checks.gives(109, 4294967289L, 2L, -3L);
    Checks.gives(110, 4294967295L, 1L, -1L);
    Checks.gives(111, 4294967289L, 2L, -1L);
    Checks.gives(112, 4294967294L, 4294967295L, -2L);
    Checks.gives(113, 4294967295L, 2147483648L, INT_LEAST);
    Checks.gives(114, 2147483648L, 0L, INT_LEAST);
    Checks.gives(115, 4294967295L, 0L, -1L);
    Checks.gives(116, 1L, 31L, INT_LEAST);
    Checks.gives(117, 4294967295L, 5L, -1L);
    Checks.gives(118, 4294967295L, 0L, -1L);
    Checks.gives(119, 1073741824L, 1L, INT_LEAST);
    Checks.gives(120, 1L, 1L, INT_LEAST);
    Checks.gives(167, 4294967295L, 0L, -1L);
    Checks.gives(192, 128L, 0L, -128L);
    Checks.gives(193, 32768L, 0L, -32768L);
  }

  private static void longsAreWhole() {
    Checks.sentence("The latest result: a long is not cut");
    Checks.gives(124, 4294967295L, 0L, 4294967295L);
    Checks.gives(132, Long.MIN_VALUE, 0L, Long.MIN_VALUE);
    Checks.gives(132, Long.MAX_VALUE, 0L, Long.MAX_VALUE);
    Checks.gives(173, 4294967295L, 0L, 4294967295L);
  }
}
