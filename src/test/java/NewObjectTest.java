/** Promise 1: the result of a new object is 0. */
public final class NewObjectTest {
  public static void main(String[] args) {
    resultIsZero();
    questionsLeaveItZero();
    refusedFirstCallsLeaveItZero();
    objectsShareNothing();
    Checks.end();
  }

  private static void resultIsZero() {
    Checks.sentence("WordArithmetic(): The result is 0");
    Checks.due("result() of a new object", new WordArithmetic().result(), 0L);
  }

  private static void questionsLeaveItZero() {
    Checks.sentence("The result is 0: questions do not move it");
    WordArithmetic x = new WordArithmetic();
    x.takes(106);
    x.takesLongs(124);
    x.leavesLong(124);
    x.takes(-1);
    x.result();
    Checks.due("result() after questions", x.result(), 0L);
  }

  private static void refusedFirstCallsLeaveItZero() {
    Checks.sentence("The result is 0: a refused first call does not move it");
    Checks.dueWork(new WordArithmetic(), 68, 7L, 7L, -1, 0L);
    Checks.dueWork(new WordArithmetic(), 109, 7L, 0L, 3, 0L);
    Checks.dueWork(new WordArithmetic(), 130, 7L, 0L, 3, 0L);
    Checks.dueWork(new WordArithmetic(), 109, -2147483648L, -1L, 4, 0L);
    Checks.dueWork(new WordArithmetic(), 127, Long.MIN_VALUE, -1L, 4, 0L);
  }

  private static void objectsShareNothing() {
    Checks.sentence("The result is 0: whatever other objects have worked out");
    WordArithmetic first = new WordArithmetic();
    Checks.dueWork(first, 106, 2L, 3L, 0, 5L);
    WordArithmetic second = new WordArithmetic();
    Checks.due("result() of a second object", second.result(), 0L);
    Checks.dueWork(second, 106, 4L, 4L, 0, 8L);
    Checks.due("result() of the first object", first.result(), 5L);
  }
}
