/** Promises 18 to 21: tells, forget, fits, orders. */
public final class ToldTest {
    public static void main(String[] args) {
        Check check = new Check();
        telling(check);
        fitting(check);
        orders(check);
        check.end();
    }

    private static void telling(Check check) {
        AnswerSquare x = Check.made("z1;a1 0;a1 1;p1 2;");
        check.due("tells(0, 0)", x.tells(0, 0), -1);
        check.due("tells(3, 0)", x.tells(3, 0), -1);
        check.due("tells(0, 3)", x.tells(0, 3), -1);
        check.due("tells(-1, 0)", x.tells(-1, 0), -1);
        check.due("tells(0, -1)", x.tells(0, -1), -1);
        check.due("count(3)", x.count(3), 0);
        for (int i = 1; i <= 6; i++) {
            check.due("tells(0, 1)", x.tells(0, 1), i);
        }
        check.due("tells(0, 1), full", x.tells(0, 1), -3);
        check.due("tells(0, 0), full", x.tells(0, 0), -1);
        check.due("count(3), full", x.count(3), 6);
        check.due("fits(), not said", x.fits(), 0);
        check.due("forget()", x.forget(), 6);
        check.due("forget() again", x.forget(), 0);
        check.due("fits(), forgotten", x.fits(), 1);
        check.due("orders, forgotten", x.orders(7), 1);
        check.due("tells(2, 1)", x.tells(2, 1), 1);
        check.due("orders, told", x.orders(7), 0);
        x.keep(0);
        x.forget();
        x.back(0);
        check.due("images do not keep what is told", x.count(3), 0);
    }

    private static void fitting(Check check) {
        AnswerSquare x = Check.made("z1;z1;a1 0;a1 1;p2 3;");
        x.tells(0, 2);
        check.due("nothing in talk", x.fits(), 0);
        x.hears(0);
        check.due("one of them only", x.fits(), 0);
        x.says(0, 2);
        check.due("both", x.fits(), 1);
        x.tells(2, 1);
        check.due("the other told is not", x.fits(), 0);
        x.hears(1);
        check.due("both told", x.fits(), 1);
        x.says(0, 2);
        check.due("later ones do not matter", x.fits(), 1);
        x.tells(1, 2);
        check.due("against it", x.fits(), 0);
        x.forget();
        x.tells(1, 0);
        x.hears(0);
        check.due("the first time counts", x.fits(), 0);
        x.forget();
        x.tells(0, 3);
        check.due("the later is not in it", x.fits(), 0);
    }

    private static void orders(Check check) {
        AnswerSquare x = Check.made("z1;z1;a1 0;a1 1 2;a1 4;a1 0;p2 3 4 0;");
        check.due("orders(0)", x.orders(0), 1);
        check.due("two sounds", x.orders(3), 2);
        check.due("sound and answer", x.orders(5), 1);
        check.due("answer alone", x.orders(4), 0);
        check.due("two sounds and an answer", x.orders(7), 3);
        check.due("3 behind 1 or 2", x.orders(15), 7);
        check.due("what answers itself only", x.orders(16), 0);
        check.due("what nobody knows", x.orders(33), 0);
        check.due("orders(-1)", x.orders(-1), -1);
        check.due("orders(64)", x.orders(64), -1);
        x.tells(3, 1);
        check.due("told 3 ahead of 1", x.orders(15), 1);
        x.tells(5, 0);
        check.due("5 is not in the set", x.orders(15), 1);
        check.due("3 is not in the set", x.orders(7), 3);
        x.tells(1, 3);
        check.due("round and round", x.orders(15), 0);
        x.hears(0);
        x.hour();
        check.due("talk does not matter", x.orders(5), 1);
        AnswerSquare y = Check.made("z1;z1;z1;z1;z1;z1;z1;z1;");
        check.due("eight sounds", y.orders(255), 40320);
        y.tells(0, 1);
        check.due("one told", y.orders(255), 20160);
        y.tells(0, 1);
        check.due("told twice", y.orders(255), 20160);
        y.tells(1, 2);
        check.due("two told", y.orders(255), 6720);
    }
}
