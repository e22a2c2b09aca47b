/**
 * In the form of the tests under ../shared/tests, each answer cast to long as it is there (trace()'s too, at which
 * javac warns if it is asked to): .ci/run must take such a test. The run has calls which those there do not have.
 */
public final class FormTest {
    private static int wrong = 0;

    private static void due(int run, String call, long got, long want) {
        if (got != want) {
            wrong++;
            System.out.println("run " + run + ": " + call + " answered " + got + ", due is " + want);
        }
    }

    public static void main(String[] args) {
        { AnswerSquare x = null;
          x = new AnswerSquare();
          due(1, "trace()", (long) x.trace(), 0L);
          due(1, "mark(0, 0)", (long) x.mark(0, 0), -1000000L);
          due(1, "type(122)", (long) x.type(122), 1L);
          due(1, "type(55)", (long) x.type(55), 2L);
          due(1, "type(59)", (long) x.type(59), 3L);
          due(1, "duchy()", (long) x.duchy(), 1L);
          due(1, "hears(0)", (long) x.hears(0), 0L);
          due(1, "hour()", (long) x.hour(), 1L);
          due(1, "keep(0)", (long) x.keep(0), 1L);
          due(1, "mark(0, 0)", (long) x.mark(0, 0), 7L);
          due(1, "mark(1, 0)", (long) x.mark(1, 0), 7L);
          due(1, "mark(2, 0)", (long) x.mark(2, 0), 6L);
          due(1, "mark(3, 0)", (long) x.mark(3, 0), 14L);
          due(1, "mark(4, 0)", (long) x.mark(4, 0), 6L);
          due(1, "mark(5, 0)", (long) x.mark(5, 0), 8L);
          due(1, "trace()", (long) x.trace(), 111226L);
          due(1, "forget()", (long) x.forget(), 0L);
          due(1, "back(1)", (long) x.back(1), -2L);
          due(1, "back(0)", (long) x.back(0), 1L);
          due(1, "trace()", (long) x.trace(), 111226L);
        }
        if (wrong > 0) {
            System.exit(1);
        }
        System.out.println("all answers are as due");
    }
}
