/** Promises 14 to 17: chain, sounds, began, odds. */
public final class ReachTest {
    public static void main(String[] args) {
        Check check = new Check();
        chains(check);
        sounds(check);
        began(check);
        odds(check);
        check.end();
    }

    private static void chains(Check check) {
        AnswerSquare x = Check.made("z1;a1 0;a1 0;a1 2 1;a1 3;a1 5 0;a1 0;a1 6;p1 2 3 4 7 0;");
        check.due("chain(4, -1), nothing there", x.chain(4, -1), -9);
        check.due("chain(4, 0), nothing there", x.chain(4, 0), -9);
        x.hears(0);
        check.due("chain(4, -1)", x.chain(4, -1), 3);
        check.due("chain(4, 0), the first by numbers", x.chain(4, 0), 1);
        check.due("chain(4, 1)", x.chain(4, 1), 3);
        check.due("chain(4, 2)", x.chain(4, 2), 4);
        check.due("chain(4, 3)", x.chain(4, 3), -9);
        check.due("chain(4, most)", x.chain(4, Integer.MAX_VALUE), -9);
        check.due("chain(4, -2)", x.chain(4, -2), -1);
        check.due("chain(0, -1), a sound", x.chain(0, -1), -9);
        check.due("chain(0, 0), a sound", x.chain(0, 0), -9);
        check.due("chain(0, -2), a sound", x.chain(0, -2), -1);
        check.due("chain(5, -1), nobody knows it", x.chain(5, -1), -9);
        check.due("chain(7, -1), nobody knows what it answers", x.chain(7, -1), -9);
        check.due("chain(8, -1)", x.chain(8, -1), -1);
        check.due("chain(-1, -1)", x.chain(-1, -1), -1);
        x.says(0, 2);
        check.due("chain(4, -1) then", x.chain(4, -1), 2);
        check.due("chain(2, -1), said already", x.chain(2, -1), 1);
        check.due("chain(2, 0)", x.chain(2, 0), 2);
        AnswerSquare y = Check.made("z1;a1 0;a1 1;a1 2 3;p1 2 3;o1;");
        y.hears(0);
        y.says(0, 1);
        y.hour();
        y.says(0, 2);
        y.says(0, 3);
        y.hour();
        check.due("what is there is no chain", y.chain(2, -1), -9);
        check.due("but it answers itself", y.chain(3, -1), 1);
        AnswerSquare u = Check.made("z1;a1 3;a1 4;a1 0;a1 5;a1 4;z1;a1 1 2;p1 2 3 4 5 7;");
        u.hears(0);
        check.due("two ways back, one leads on", u.chain(7, -1), 3);
        check.due("its first", u.chain(7, 0), 3);
        check.due("its second", u.chain(7, 1), 1);
        check.due("its third", u.chain(7, 2), 7);
        AnswerSquare z = Check.made("a1 1;a1 2;a1 3;a1 4;a1 5;a1 6;a1 7;z1;p0 1 2 3 4 5 6;");
        z.hears(7);
        check.due("the longest", z.chain(0, -1), 7);
        for (int i = 0; i < 7; i++) {
            check.due("its steps", z.chain(0, i), 6 - i);
        }
    }

    private static void sounds(Check check) {
        AnswerSquare x = Check.made("z1;z1;z1;a1 0 1;a1 1 2;a1 3;a1 6;a1 0;p3 4 5 6;");
        check.due("sounds(0)", x.sounds(0), 0);
        check.due("sounds of 3", x.sounds(8), 1);
        check.due("sounds of 4", x.sounds(16), 2);
        check.due("sounds of 3 and 4, one does", x.sounds(24), 2);
        check.due("sounds of 4 and 5", x.sounds(48), 2);
        check.due("sounds do not matter", x.sounds(7), 0);
        check.due("nor beside others", x.sounds(8 + 7), 1);
        check.due("what answers itself alone", x.sounds(64), -9);
        check.due("what nobody knows", x.sounds(128), -9);
        check.due("with such", x.sounds(24 + 64), -9);
        check.due("sounds(-1)", x.sounds(-1), -1);
        check.due("sounds(256)", x.sounds(256), -1);
        x.hears(2);
        check.due("4 by what is there", x.sounds(16), 0);
        check.due("3 and 4 by that and 0", x.sounds(24), 1);
        AnswerSquare y = Check.made("z1;a1 0;a1 1;p1;p2;o1;");
        y.hears(0);
        y.says(0, 1);
        check.due("all by what is there", y.sounds(6), 0);
        y.hour();
        y.hour();
        check.due("nothing there any more", y.sounds(6), 1);
        AnswerSquare z = Check.made("z1;a1 0;a1 1;p1;p2;o1;");
        z.hears(0);
        z.hour();
        z.says(0, 1);
        z.hour();
        check.due("there, but not to be said anew", z.sounds(2), 1);
        check.due("what answers it", z.sounds(4), 0);
        AnswerSquare t = Check.made("a1 3;a1 4;a1 5;z1;z1;z1;p0 1 2;");
        check.due("three of them", t.sounds(7), 56);
        check.due("two of them", t.sounds(6), 48);
        check.due("sounds(64), six sayings", t.sounds(64), -1);
    }

    private static void began(Check check) {
        AnswerSquare x = Check.made("z1;z1;z1;a1 0 1;a1 1 2;a1 3;a1 6;a1 0;p3 4 5 6;");
        check.due("began(0), all of them", x.began(0), 7);
        check.due("began of sounds", x.began(5), 7);
        check.due("began of 3", x.began(8), 3);
        check.due("began of 4", x.began(16), 6);
        check.due("began of 3 and 4", x.began(24), 2);
        check.due("began of 5", x.began(32), 3);
        check.due("began of what can't be", x.began(64), 0);
        check.due("began of what nobody knows", x.began(128), 0);
        check.due("began(-1)", x.began(-1), -1);
        check.due("began(256)", x.began(256), -1);
        x.hears(2);
        check.due("what is there does not matter", x.began(24), 2);
    }

    private static void fraction(Check check, AnswerSquare x, int w, int by, int upper, int lower) {
        check.due("odds(" + w + ", " + by + ", 0)", x.odds(w, by, 0), upper);
        check.due("odds(" + w + ", " + by + ", 1)", x.odds(w, by, 1), lower);
    }

    private static void odds(Check check) {
        AnswerSquare x = Check.made("z1;z1;z1;a1 0 1;a1 3 2;a1 5;z1;p3 4 5;");
        fraction(check, x, 0, 3, 3, 10);
        fraction(check, x, 0, 5, 1, 2);
        fraction(check, x, 0, 0, 0, 1);
        fraction(check, x, 0, 10, 1, 1);
        fraction(check, x, 3, 3, 51, 100);
        fraction(check, x, 3, 0, 0, 1);
        fraction(check, x, 3, 10, 1, 1);
        fraction(check, x, 4, 3, 657, 1000);
        fraction(check, x, 4, 5, 7, 8);
        fraction(check, x, 5, 5, 0, 1);
        fraction(check, x, 5, 10, 0, 1);
        fraction(check, x, 6, 10, 1, 1);
        x.hears(0);
        fraction(check, x, 3, 3, 51, 100);
        check.due("odds(3, -1, 0)", x.odds(3, -1, 0), -1);
        check.due("odds(3, 11, 0)", x.odds(3, 11, 0), -1);
        check.due("odds(3, 3, 2)", x.odds(3, 3, 2), -1);
        check.due("odds(3, 3, -1)", x.odds(3, 3, -1), -1);
        check.due("odds(7, 3, 0)", x.odds(7, 3, 0), -1);
        check.due("odds(-1, 3, 0)", x.odds(-1, 3, 0), -1);
        AnswerSquare y = Check.made("z1;z1;z1;z1;z1;z1;z1;a1 0 1 2 3 4 5 6;p7;");
        fraction(check, y, 7, 1, 10000000 - 4782969, 10000000);
        fraction(check, y, 7, 8, 78124, 78125);
    }
}
