/** Promises 5 to 13: sayings, people, talk, and what is done. */
public final class TalkTest {
    public static void main(String[] args) {
        Check check = new Check();
        refusals(check);
        wholeTalk(check);
        growingOld(check);
        latestIsAnswered(check);
        undone(check);
        full(check);
        lastHour(check);
        ends(check);
        silence(check);
        check.end();
    }

    private static void row(Check check, AnswerSquare x, int i, int... want) {
        for (int what = 0; what < want.length; what++) {
            check.due("talk(" + i + ", " + what + ")", x.talk(i, what), want[what]);
        }
    }

    private static void refusals(Check check) {
        AnswerSquare x = Check.made("z1;a2 0;a3 1;p1;p0 2;");
        check.due("hears(1), no sound", x.hears(1), -1);
        check.due("hears(-1)", x.hears(-1), -1);
        check.due("hears(3)", x.hears(3), -1);
        check.due("says(2, 1)", x.says(2, 1), -1);
        check.due("says(-1, 1)", x.says(-1, 1), -1);
        check.due("says(0, 3)", x.says(0, 3), -1);
        check.due("says(0, -1)", x.says(0, -1), -1);
        check.due("says(1, 0), a sound", x.says(1, 0), -1);
        check.due("says(0, 1), nothing there", x.says(0, 1), -2);
        check.due("hears(0)", x.hears(0), 0);
        check.due("says(1, 1), not known", x.says(1, 1), -2);
        check.due("says(1, 2), what it answers is not there", x.says(1, 2), -2);
        check.due("nothing has changed", x.now(1), 1);
        check.due("one may be undone", x.count(4), 1);
        check.due("talk(1, 0)", x.talk(1, 0), -1);
        check.due("talk(-1, 0)", x.talk(-1, 0), -1);
        check.due("talk(0, 8)", x.talk(0, 8), -1);
        check.due("talk(0, -1)", x.talk(0, -1), -1);
        check.due("now(8)", x.now(8), -1);
        check.due("now(-1)", x.now(-1), -1);
        check.due("worth(1)", x.worth(1), -1);
        check.due("worth(-1)", x.worth(-1), -1);
    }

    private static void wholeTalk(Check check) {
        AnswerSquare x = Check.made("z1;a2 0 1;z4;a8 2 1;p1 3;p3;o9;");
        x.hears(0);
        x.hears(2);
        check.due("says(0, 1)", x.says(0, 1), 0);
        check.due("says(1, 3)", x.says(1, 3), 2);
        check.due("hour()", x.hour(), 1);
        check.due("says(0, 1) again", x.says(0, 1), 2);
        check.due("hears(0) again", x.hears(0), 5);
        row(check, x, 0, 0, 0, -9, -9, 0, 0, 0, 1);
        row(check, x, 1, 2, 0, -9, -9, 1, 0, 1, 1);
        row(check, x, 2, 1, 0, 0, 0, 0, 1, 0, 1);
        row(check, x, 3, 3, 0, 1, 2, 0, 2, 1, 1);
        row(check, x, 4, 1, 1, 0, 2, 0, 2, 1, 1);
        row(check, x, 5, 0, 1, -9, -9, 5, 0, 1, 1);
        check.due("now(0)", x.now(0), 1);
        check.due("now(1)", x.now(1), 6);
        check.due("now(2)", x.now(2), 15);
        check.due("now(3)", x.now(3), 4);
        check.due("now(4), the first of two", x.now(4), 3);
        check.due("now(5)", x.now(5), 5);
        check.due("now(6)", x.now(6), 1);
        check.due("worth(0)", x.worth(0), 1 + 2 + 8 + 2);
        check.due("worth(1)", x.worth(1), 4);
        check.due("worth(2), no root", x.worth(2), -1);
        check.due("worth(5)", x.worth(5), 1);
        check.due("saying(0, 4)", x.saying(0, 4), 2);
        check.due("saying(1, 4)", x.saying(1, 4), 2);
        check.due("saying(3, 4)", x.saying(3, 4), 1);
        check.due("person(0, 2)", x.person(0, 2), 2);
        check.due("person(1, 2)", x.person(1, 2), 1);
        check.due("person(0, 1)", x.person(0, 1), 10);
        check.due("person(1, 1)", x.person(1, 1), 8);
    }

    private static void growingOld(Check check) {
        AnswerSquare x = Check.made("z1;a2 0;p1 0;o2;");
        x.hears(0);
        x.hour();
        x.hour();
        check.due("there, two hours ago", x.talk(0, 7), 1);
        check.due("may, two hours ago", x.person(0, 1), 2);
        x.hour();
        check.due("no more there", x.talk(0, 7), 0);
        check.due("may nothing", x.person(0, 1), 0);
        check.due("nothing there", x.now(2), 0);
        check.due("still open", x.now(3), 1);
        check.due("still the stone", x.now(5), 0);
        check.due("says", x.says(0, 1), -2);
        x.undo();
        check.due("there again", x.now(2), 1);
        check.due("says again", x.says(0, 1), 0);
    }

    private static void latestIsAnswered(Check check) {
        AnswerSquare x = Check.made("z1;z1;a2 0 1 2;p2;o1;");
        x.hears(1);
        x.hears(0);
        check.due("the later of two sounds", x.says(0, 2), 1);
        check.due("itself", x.says(0, 2), 2);
        x.hour();
        x.hears(0);
        x.hour();
        check.due("the only one that is there", x.says(0, 2), 4);
        check.due("far of it", x.talk(5, 5), 1);
        check.due("root of it", x.talk(5, 4), 4);
        check.due("farthest", x.now(4), 3);
    }

    private static void undone(Check check) {
        AnswerSquare x = Check.made("z1;a2 0 1;p1;o9;");
        x.hears(0);
        x.hour();
        x.says(0, 1);
        x.hour();
        check.due("count(4)", x.count(4), 4);
        check.due("undo an hour", x.undo(), 3);
        check.due("hour then", x.now(0), 1);
        check.due("talk then", x.now(1), 2);
        check.due("undo a saying", x.undo(), 2);
        check.due("talk then", x.now(1), 1);
        check.due("hour then", x.now(0), 1);
        check.due("open again", x.talk(0, 6), 1);
        check.due("said by him", x.person(0, 2), 0);
        check.due("ends", x.now(6), 0);
        check.due("undo an hour", x.undo(), 1);
        check.due("undo a sound", x.undo(), 0);
        check.due("nobody said anything", x.now(1), 0);
        check.due("undo none", x.undo(), -2);
        for (int i = 0; i < 13; i++) {
            x.hears(0);
        }
        check.due("twelve are known", x.count(4), 12);
        for (int i = 11; i >= 0; i--) {
            check.due("undo", x.undo(), i);
        }
        check.due("the thirteenth is lost", x.undo(), -2);
        check.due("it stays", x.now(1), 1);
    }

    private static void full(Check check) {
        AnswerSquare x = Check.made("z1;a2 0;p1;p;");
        for (int i = 0; i < 30; i++) {
            check.due("hears(0)", x.hears(0), i);
        }
        check.due("hears(0), full", x.hears(0), -3);
        check.due("hears(1), full", x.hears(1), -1);
        check.due("says(0, 1), full", x.says(0, 1), -3);
        check.due("says(1, 1), full", x.says(1, 1), -2);
        check.due("count(4), full", x.count(4), 12);
        check.due("stone, full", x.now(5), 29);
        check.due("open, full", x.now(3), 30);
        x.undo();
        check.due("says(0, 1), room again", x.says(0, 1), 28);
        check.due("stone then", x.now(5), 29);
        check.due("open then", x.now(3), 29);
    }

    private static void lastHour(Check check) {
        AnswerSquare x = Check.made("z1;");
        for (int i = 1; i <= 99; i++) {
            check.due("hour()", x.hour(), i);
        }
        check.due("hour(), the hundredth", x.hour(), -2);
        check.due("count(4)", x.count(4), 12);
        check.due("now(0)", x.now(0), 99);
        check.due("undo()", x.undo(), 11);
        check.due("hour() again", x.hour(), 99);
    }

    private static void ends(Check check) {
        AnswerSquare x = Check.made("z1;a2 0;a3 1;p1;p1;p2;p1;");
        x.hears(0);
        check.due("not answered", x.now(6), 0);
        x.says(1, 1);
        x.says(0, 1);
        x.says(2, 2);
        check.due("the first only", x.now(6), 2);
        x.hears(0);
        check.due("a second sound", x.now(6), 2);
        x.says(3, 1);
        check.due("each sound has its own", x.now(6), 10);
    }

    private static void silence(Check check) {
        AnswerSquare x = Check.made("z1;a2 0;p1;o9;");
        check.due("silent now", x.now(7), 0);
        x.hears(0);
        check.due("never within nine", x.now(7), -9);
        x.hour();
        check.due("in nine", x.now(7), 9);
        x.hour();
        check.due("in eight", x.now(7), 8);
        x.says(0, 1);
        check.due("an answer that nobody answers", x.now(7), 8);
        x.hears(0);
        check.due("a sound anew", x.now(7), -9);
        AnswerSquare y = Check.made("z1;a2 0;p0;");
        y.hears(0);
        check.due("nobody knows it", y.now(7), 0);
    }
}
