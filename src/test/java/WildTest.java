/** No call ever throws, whatever its arguments and in whatever state; and what is refused changes nothing. */
public final class WildTest {
    private static final int[] WILD = {
        Integer.MIN_VALUE, Integer.MIN_VALUE + 1, -1000000, -33, -9, -3, -2, -1, 0, 1, 4, 5, 7, 8, 9, 10, 11, 29, 30,
        31, 32, 33, 99, 100, 199, 200, 255, 256, 257, 65536, Integer.MAX_VALUE - 1, Integer.MAX_VALUE};

    public static void main(String[] args) {
        Check check = new Check();
        all(check, "new", new AnswerSquare());
        AnswerSquare x = Check.made("z1;a2 0 1 2;a3 1;z4;a5 4;a6;a7 7;a8 0 3;p1 2 0;p4 5 6 7;p;o2;");
        all(check, "read", x);
        for (int i = 0; i < 40; i++) {
            x.hears(i % 2 * 3);
            x.says(0, 1);
            x.says(1, 7);
            x.hour();
        }
        all(check, "full", x);
        for (int i = 0; i < 400; i++) {
            x.hour();
            x.type(i % 256);
        }
        all(check, "late", x);
        check.end();
    }

    private static void all(Check check, String where, AnswerSquare x) {
        for (int a : WILD) {
            long before = state(x);
            x.saying(a, 1);
            x.now(a);
            x.worth(a);
            x.sounds(a);
            x.began(a);
            x.orders(a);
            x.count(a);
            x.fits();
            for (int b : WILD) {
                x.saying(a, b);
                x.person(a, b);
                x.talk(a, b);
                x.chain(a, b);
                x.odds(a, b, 0);
                x.odds(a, 5, b);
                x.odds(1, a, b);
            }
            check.due(where + ": asking changes nothing, " + a, state(x), before);
            if (a < 0 || a > 255) {
                check.due(where + ": type(" + a + ")", x.type(a), -1);
                check.due(where + ": hears(" + a + ")", x.hears(a), -1);
                check.due(where + ": keep(" + a + ")", x.keep(a), -1);
                check.due(where + ": back(" + a + ")", x.back(a), -1);
                for (int b : WILD) {
                    check.due(where + ": says(" + a + ", " + b + ")", x.says(a, b), -1);
                    check.due(where + ": says(" + b + ", " + a + ")", x.says(b, a), -1);
                    check.due(where + ": tells(" + a + ", " + b + ")", x.tells(a, b), -1);
                    check.due(where + ": tells(" + b + ", " + a + ")", x.tells(b, a), -1);
                    check.due(where + ": mark(" + a + ", " + b + ")", x.mark(a, b), -1000000);
                    check.due(where + ": mark(" + b + ", " + a + ")", x.mark(b, a), -1000000);
                }
                check.due(where + ": refusing changes nothing, " + a, state(x), before);
            }
        }
    }

    private static long state(AnswerSquare x) {
        long sum = x.trace();
        for (int what = 0; what < 8; what++) {
            sum = sum * 31 + x.now(what);
            sum = sum * 31 + x.count(what);
            for (int i = 0; i < 30; i++) {
                sum = sum * 31 + x.talk(i, what);
            }
            for (int w = 0; w < 8; w++) {
                sum = sum * 31 + x.saying(w, what);
                sum = sum * 31 + x.person(w, what);
            }
        }
        return sum;
    }
}
