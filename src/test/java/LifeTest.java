/** The section "What it is": an object answers as promised up to its 512th call. */
public final class LifeTest {
  private static final int CALLS = 512;
  private static final String SENTENCE = "An object is used for at most 512 calls";

  public static void main(String[] args) {
    workUpToTheLastCall();
    onlyTheLastCallAsks();
    refusalsUpToTheLastCall();
    questionsUpToTheLastCall();
    laterCallsEnd();
    Checks.end();
  }

  private static void workUpToTheLastCall() {
    Checks.sentence(SENTENCE + ": work and result in turn");
    WordArithmetic x = new WordArithmetic();
    long sum = 0L;
    for (int calls = 2; calls <= CALLS; calls += 2) {
      long before = sum;
      sum += calls;
      Checks.dueWork(x, 124, before, calls, 0, sum);
    }
  }

  private static void onlyTheLastCallAsks() {
    Checks.sentence(SENTENCE + ": 511 times work, then result");
    WordArithmetic x = new WordArithmetic();
    for (int call = 1; call < CALLS; call++) {
      Checks.due("call " + call + ", work(107)", x.work(107, 0L, call), 0L);
    }
    Checks.due("call 512, result()", x.result(), -511L);
  }

  private static void refusalsUpToTheLastCall() {
    Checks.sentence(SENTENCE + ": 510 of them refused");
    WordArithmetic x = new WordArithmetic();
    Checks.due("call 1, work(106)", x.work(106, 3L, 4L), 0L);
    for (int call = 2; call < CALLS; call += 3) {
      Checks.due("call " + call + ", trap 3", x.work(109, call, 0L), 3L);
      Checks.due("call " + (call + 1) + ", trap 4", x.work(127, Long.MIN_VALUE, -1L), 4L);
      Checks.due("call " + (call + 2) + ", none", x.work(197, call, 1L), -1L);
    }
    Checks.due("call 512, result()", x.result(), 7L);
  }

  private static void questionsUpToTheLastCall() {
    Checks.sentence(SENTENCE + ": questions");
    WordArithmetic x = new WordArithmetic();
    for (int call = 4; call <= CALLS; call += 4) {
      Checks.due("takes(70), about call " + call, x.takes(70), 2L);
      Checks.due("takesLongs(167), about call " + call, x.takesLongs(167), true);
      Checks.due("result(), about call " + call, x.result(), 0L);
      Checks.due("leavesLong(172), call " + call, x.leavesLong(172), true);
    }
  }

  /** What they answer is free; that they come to an end is LANGUAGE.md's rule 7. */
  private static void laterCallsEnd() {
    Checks.sentence("what later calls answer is free");
    WordArithmetic x = new WordArithmetic();
    int ended = 0;
    for (int call = 1; call <= 4 * CALLS; call++) {
      x.work(60 + call % 140, call, call % 3 - 1L);
      x.takes(call);
      x.takesLongs(call);
      x.leavesLong(call);
      x.result();
      ended++;
    }
    Checks.due("rounds that ended", ended, 4L * CALLS);
  }
}
