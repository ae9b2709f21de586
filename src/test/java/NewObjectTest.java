/** Promise 1: the result of a new object is 0. */
public final class NewObjectTest {
  public static void main(String[] args) {
    resultIsZero();
    questionsLeaveItZero();
    wrongFirstCallsLeaveItZero();
    objectsShareNothing();
    Checks.end();
  }

  private static void resultIsZero() {
    Checks.due("result() of a new object", new WordArithmetic().result(), 0L);
  }

  private static void questionsLeaveItZero() {
    WordArithmetic x = new WordArithmetic();
    x.takes(106);
    x.takesLongs(124);
    x.leavesLong(124);
    x.takes(-1);
    Checks.due("result() after questions", x.result(), 0L);
  }

  private static void wrongFirstCallsLeaveItZero() {
    Checks.dueWork(new WordArithmetic(), 68, 7L, 7L, -1, 0L);
    Checks.dueWork(new WordArithmetic(), 109, 7L, 0L, 3, 0L);
    Checks.dueWork(new WordArithmetic(), 127, Long.MIN_VALUE, -1L, 4, 0L);
  }

  private static void objectsShareNothing() {
    WordArithmetic first = new WordArithmetic();
    Checks.dueWork(first, 106, 2L, 3L, 0, 5L);
    WordArithmetic second = new WordArithmetic();
    Checks.due("result() of a second object", second.result(), 0L);
    Checks.dueWork(second, 106, 4L, 4L, 0, 8L);
    Checks.due("result() of the first object", first.result(), 5L);
  }
}
