/** Promises 2 type, 3 clear, 4 duchy, and what 5 saying, 6 person and 25 count answer of what a text told. */
public final class TextTest {
    public static void main(String[] args) {
        Check check = new Check();
        typing(check);
        taken(check);
        faults(check);
        limits(check);
        refusedChangesNothing(check);
        readAnew(check);
        check.end();
    }

    private static void typing(Check check) {
        AnswerSquare x = new AnswerSquare();
        check.due("type(-1)", x.type(-1), -1);
        check.due("type(256)", x.type(256), -1);
        check.due("type(least)", x.type(Integer.MIN_VALUE), -1);
        check.due("type(0)", x.type(0), 1);
        check.due("type(255)", x.type(255), 2);
        check.due("count(5)", x.count(5), 2);
        check.due("clear()", x.clear(), 2);
        check.due("clear() again", x.clear(), 0);
        check.due("count(5) then", x.count(5), 0);
        for (int i = 1; i <= 200; i++) {
            check.due("type(32)", x.type(32), i);
        }
        check.due("type(32), the 201st", x.type(32), -3);
        check.due("type(300), the 201st", x.type(300), -1);
        check.due("count(5), full", x.count(5), 200);
        check.due("duchy() of 200 blanks", x.duchy(), 0);
        check.due("type(32) after it", x.type(32), 1);
    }

    private static void taken(Check check) {
        AnswerSquare x = new AnswerSquare();
        check.due("read nothing", Check.read(x, ""), 0);
        check.due("read p;", Check.read(x, "p;"), 1);
        check.due("people", x.count(1), 1);
        check.due("knows nothing", x.person(0, 0), 0);
        check.due("read spread", Check.read(x, "  a  9   7 0  0 ;z 0;  p 1 7;o 9 ;  "), 4);
        check.due("text is empty", x.count(5), 0);
        check.due("sayings", x.count(0), 2);
        check.due("old", x.count(2), 9);
        check.due("worthy", x.saying(0, 1), 9);
        check.due("answers itself only, 7 is no saying", x.saying(0, 2), 1);
        check.due("knows 1 only", x.person(0, 0), 2);
        check.due("who knows the sound", x.saying(1, 3), 1);
        check.due("who knows 0", x.saying(0, 3), 0);
        check.due("is a sound", x.saying(1, 0), 1);
        check.due("read a1;", Check.read(x, "a1;p0;"), 2);
        check.due("that answers nothing is no sound", x.saying(0, 0), 0);
        check.due("and can't be heard", x.hears(0), -1);
        check.due("nor said", x.says(0, 0), -2);
        check.due("told ahead", Check.read(x, "o1;p1 0;a2 1;z3;"), 4);
        check.due("answers what is told behind", x.saying(0, 2), 2);
        check.due("knows what is told behind", x.person(0, 0), 3);
        check.due("saying(0, 5)", x.saying(0, 5), -1);
        check.due("saying(0, -1)", x.saying(0, -1), -1);
        check.due("saying(2, 0)", x.saying(2, 0), -1);
        check.due("saying(-1, 0)", x.saying(-1, 0), -1);
        check.due("person(0, 3)", x.person(0, 3), -1);
        check.due("person(0, -1)", x.person(0, -1), -1);
        check.due("person(1, 0)", x.person(1, 0), -1);
        check.due("person(-1, 0)", x.person(-1, 0), -1);
        check.due("count(6)", x.count(6), -1);
        check.due("count(-1)", x.count(-1), -1);
    }

    private static void faults(Check check) {
        fault(check, "a", 1);
        fault(check, "a 1 ", 4);
        fault(check, "z", 1);
        fault(check, "z1", 2);
        fault(check, "z1 ", 3);
        fault(check, "p", 1);
        fault(check, "p1", 2);
        fault(check, "o", 1);
        fault(check, "o1", 2);
        fault(check, "z1; z", 5);
        fault(check, " a;", 2);
        fault(check, "a10;", 1);
        fault(check, "a1 8;", 3);
        fault(check, "a1 00;", 3);
        fault(check, "a1 07;", 3);
        fault(check, "a00;", 1);
        fault(check, "a100;", 1);
        fault(check, "a4294967297;", 1);
        fault(check, "a99999999999999999999999;", 1);
        fault(check, "z1 1;", 3);
        fault(check, "z1p;", 2);
        fault(check, "z1z;", 2);
        fault(check, "zz1;", 0);
        fault(check, "az1;", 0);
        fault(check, "b1;", 0);
        fault(check, "y1;", 0);
        fault(check, "A1;", 0);
        fault(check, "1;", 0);
        fault(check, ";", 0);
        fault(check, "  ;", 2);
        fault(check, "z1;;", 3);
        fault(check, "z1; 5", 4);
        fault(check, "p8;", 1);
        fault(check, "p0 a;", 3);
        fault(check, "o0;", 1);
        fault(check, "o10;", 1);
        fault(check, "o1 1;", 3);
        fault(check, "o;", 1);
        fault(check, "o1;z1;o1;", 6);
        fault(check, "a1\t0;", 2);
        fault(check, "a1,0;", 2);
        fault(check, "\0", 0);
        fault(check, "z1;" + (char) 255, 3);
        fault(check, "a1" + (char) 225 + ";", 2);
        fault(check, "z1;`", 3);
        fault(check, "z1;{", 3);
        fault(check, "z/;", 1);
        fault(check, "z:;", 1);
        fault(check, "zz; \t", 0);
        fault(check, "z1;x \t", 3);
    }

    private static void fault(Check check, String text, int place) {
        AnswerSquare x = new AnswerSquare();
        check.due("duchy() of '" + text + "'", Check.read(x, text), -10 - place);
        check.due("bytes of it kept", x.count(5), text.length());
    }

    private static void limits(Check check) {
        AnswerSquare x = new AnswerSquare();
        String eight = "z0;a1;z2;a3;z4;a5;z6;a7;";
        check.due("eight sayings", Check.read(x, eight), 8);
        check.due("the last one's worth", x.saying(7, 1), 7);
        check.due("sounds of them", x.began(0), 85);
        fault(check, eight + "a0;", 24);
        fault(check, eight + " z0;", 25);
        check.due("five people", Check.read(x, "p0;p;p;p;p;"), 5);
        check.due("nobody knows what is none", x.person(0, 0), 0);
        fault(check, "p;p;p;p;p; p;", 11);
        check.due("eight answered", Check.read(x, "a0 0 1 2 3 4 5 6 7;"), 1);
        fault(check, "a0 0 0 0 0 0 0 0 0 0;", 19);
        fault(check, "a0 0 0 0 0 0 0 0 0;p1 1 1 1 1 1 1 1 1;", 36);
        check.due("all of it", Check.read(x, eight + "p;p;p;p;p;o3;"), 14);
        fault(check, eight + "p;p;p;p;p;o3;o3;", 37);
        fault(check, eight + "p;p;p;p;p;o3;p;", 37);
        fault(check, eight + "p;p;p;p;p;o3;?", 37);
    }

    private static void refusedChangesNothing(Check check) {
        AnswerSquare x = Check.made("z5;a6 0;p1;o4;");
        x.hears(0);
        x.says(0, 1);
        x.hour();
        x.tells(0, 1);
        x.keep(1);
        check.due("refused", Check.read(x, "z1;p0;o9;zz"), -19);
        int[] counts = {2, 1, 4, 1, 3, 11};
        for (int what = 0; what < counts.length; what++) {
            check.due("refused: count(" + what + ")", x.count(what), counts[what]);
        }
        check.due("refused: saying(0, 1)", x.saying(0, 1), 5);
        check.due("refused: saying(1, 2)", x.saying(1, 2), 1);
        check.due("refused: person(0, 0)", x.person(0, 0), 2);
        check.due("refused: now(1)", x.now(1), 2);
        check.due("refused: back(1)", x.back(1), 1);
    }

    private static void readAnew(Check check) {
        AnswerSquare x = Check.made("z5;a6 0;p1;o4;");
        x.hears(0);
        x.hour();
        x.tells(0, 1);
        x.keep(0);
        x.keep(1);
        x.mark(3, 0);
        check.due("read anew", Check.read(x, "z1;a2 0;"), 2);
        int[] counts = {2, 0, 3, 0, 0, 0};
        for (int what = 0; what < counts.length; what++) {
            check.due("anew: count(" + what + ")", x.count(what), counts[what]);
        }
        check.due("anew: now(0)", x.now(0), 0);
        check.due("anew: now(1)", x.now(1), 0);
        check.due("anew: undo()", x.undo(), -2);
        check.due("anew: back(0)", x.back(0), -2);
        check.due("anew: back(1)", x.back(1), -2);
        check.due("anew: fits()", x.fits(), 1);
        check.due("anew: orders(3), nobody knows 1", x.orders(3), 0);
        check.due("anew: trace()", x.trace(), 1011);
        check.due("anew, of nothing", x.duchy(), 0);
        check.due("then there is nothing", x.count(0), 0);
    }
}
