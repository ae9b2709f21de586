/** Promise 6: result is the latest result, an int with its sign; nothing else moves it. */
public final class ResultTest {
  public static void main(String[] args) {
    askingTwiceAnswersTheSame();
    laterResultsTakeItsPlace();
    trapsAndWrongNumbersLeaveIt();
    questionsLeaveIt();
    intsHaveTheirSign();
    aLongRunOfCalls();
    Checks.end();
  }

  private static void askingTwiceAnswersTheSame() {
    WordArithmetic x = new WordArithmetic();
    x.work(106, 20L, 22L);
    Checks.due("result()", x.result(), 42L);
    Checks.due("result() again", x.result(), 42L);
  }

  private static void laterResultsTakeItsPlace() {
    WordArithmetic x = new WordArithmetic();
    Checks.dueWork(x, 124, 4294967296L, 1L, 0, 4294967297L);
    Checks.dueWork(x, 70, 1L, 1L, 0, 1L);
    Checks.dueWork(x, 70, 1L, 2L, 0, 0L);
    Checks.dueWork(x, 173, -1L, 0L, 0, 4294967295L);
  }

  private static void trapsAndWrongNumbersLeaveIt() {
    WordArithmetic x = new WordArithmetic();
    Checks.dueWork(x, 124, 40L, 2L, 0, 42L);
    for (int c = 109; c <= 112; c++) {
      Checks.dueWork(x, c, 5L, 0L, 3, 42L);
      Checks.dueWork(x, c + 18, 5L, 0L, 3, 42L);
    }
    Checks.dueWork(x, 109, -2147483648L, -1L, 4, 42L);
    Checks.dueWork(x, 127, Long.MIN_VALUE, -1L, 4, 42L);
    Checks.dueWork(x, 0, 5L, 5L, -1, 42L);
    Checks.dueWork(x, 200, 5L, 5L, -1, 42L);
    Checks.dueWork(x, -1, 5L, 0L, -1, 42L);
    Checks.dueWork(x, 111, -2147483648L, -1L, 0, 0L);
  }

  private static void questionsLeaveIt() {
    WordArithmetic x = new WordArithmetic();
    x.work(125, 1L, 10L);
    x.takes(106);
    x.takesLongs(106);
    x.leavesLong(106);
    Checks.due("result() after questions", x.result(), -9L);
  }

  private static void intsHaveTheirSign() {
    WordArithmetic x = new WordArithmetic();
    Checks.dueWork(x, 106, 2147483647L, 1L, 0, -2147483648L);
    Checks.dueWork(x, 110, 4294967295L, 1L, 0, -1L);
    Checks.dueWork(x, 118, 4294967295L, 0L, 0, -1L);
    Checks.dueWork(x, 114, 2147483648L, 0L, 0, -2147483648L);
    Checks.dueWork(x, 167, 4294967295L, 0L, 0, -1L);
  }

  private static void aLongRunOfCalls() {
    WordArithmetic x = new WordArithmetic();
    long sum = 0L;
    for (int i = 1; i <= 256; i++) {
      long before = sum;
      sum += i;
      Checks.dueWork(x, 124, before, i, 0, sum);
    }
  }
}
