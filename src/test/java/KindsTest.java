/** Promises 22 to 26: mark, keep, back, count, trace. */
public final class KindsTest {
    public static void main(String[] args) {
        Check check = new Check();
        marks(check);
        images(check);
        counts(check);
        check.end();
    }

    private static void marks(Check check) {
        AnswerSquare x = Check.made("z1;a7 0 1 2 6;a2 1;p1 2;p1;p1 0;");
        x.hears(0);
        x.says(0, 1);
        x.says(1, 1);
        x.hour();
        x.hour();
        int[] want = {7, 7 + 3, 7 - 2, (7 + 3) * 2, 7 - 2 + 3, 7 + 2};
        long[] steps = {1, 11, 101, 1011, 10101, 100001};
        long trace = 0;
        for (int kind = 0; kind < want.length; kind++) {
            check.due("mark(" + kind + ", 1)", x.mark(kind, 1), want[kind]);
            trace += steps[kind];
            check.due("trace()", x.trace(), trace);
        }
        check.due("mark(6, 1)", x.mark(6, 1), -1000000);
        check.due("mark(-1, 1)", x.mark(-1, 1), -1000000);
        check.due("mark(0, 3)", x.mark(0, 3), -1000000);
        check.due("mark(0, -1)", x.mark(0, -1), -1000000);
        check.due("trace(), refused", x.trace(), trace);
        check.due("mark(4, 0)", x.mark(4, 0), 1 - 1 + 1);
        check.due("mark(1, 0)", x.mark(1, 0), 1);
        AnswerSquare y = Check.made("z0;");
        y.hears(0);
        y.hears(0);
        check.due("below 0", y.mark(2, 0), -2);
        check.due("below 0, echo", y.mark(4, 0), -2);
        y.keep(0);
        y.back(0);
        y.undo();
        check.due("trace() is not undone", y.trace(), 10202);
        Check.read(y, "z1;");
        check.due("trace() goes on", y.trace(), 10202);
    }

    private static void images(Check check) {
        AnswerSquare x = Check.made("z1;a2 0 1;p1;o5;");
        check.due("keep(2)", x.keep(2), -1);
        check.due("keep(-1)", x.keep(-1), -1);
        check.due("back(2)", x.back(2), -1);
        check.due("back(-1)", x.back(-1), -1);
        check.due("back(0), none", x.back(0), -2);
        x.hears(0);
        x.hour();
        check.due("keep(0)", x.keep(0), 1);
        check.due("back(1), none", x.back(1), -2);
        x.says(0, 1);
        x.hour();
        x.hour();
        check.due("keep(1)", x.keep(1), 3);
        x.tells(0, 1);
        check.due("back(0)", x.back(0), 1);
        check.due("talk as then", x.now(1), 1);
        check.due("hour as then", x.now(0), 1);
        check.due("undoable as then", x.count(4), 2);
        check.due("told stays", x.count(3), 1);
        x.hears(0);
        x.hears(0);
        check.due("back(1)", x.back(1), 3);
        check.due("talk", x.now(1), 2);
        check.due("which", x.talk(1, 0), 1);
        check.due("by", x.talk(1, 2), 0);
        check.due("to", x.talk(1, 3), 0);
        check.due("at", x.talk(1, 1), 1);
        check.due("far", x.talk(1, 5), 1);
        check.due("root", x.talk(1, 4), 0);
        check.due("undo", x.undo(), 4);
        check.due("an hour was undone", x.now(0), 2);
        check.due("back(1) again", x.back(1), 3);
        x.undo();
        x.undo();
        check.due("undo the saying", x.undo(), 2);
        check.due("talk", x.now(1), 1);
        check.due("back(0) is still so", x.back(0), 1);
        check.due("keep(1) over it", x.keep(1), 1);
        x.hour();
        check.due("back(1) over it", x.back(1), 1);
    }

    private static void counts(Check check) {
        AnswerSquare x = Check.made("z1;a2 0;a2 0;p1;p2;o5;");
        x.hears(0);
        x.tells(0, 1);
        x.tells(0, 2);
        x.type('z');
        x.type('z');
        x.type('z');
        x.type('z');
        int[] want = {3, 2, 5, 2, 1, 4};
        for (int what = 0; what < want.length; what++) {
            check.due("count(" + what + ")", x.count(what), want[what]);
        }
        check.due("count(-1)", x.count(-1), -1);
        check.due("count(6)", x.count(6), -1);
    }
}
