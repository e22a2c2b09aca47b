/** All promises: long runs of calls, the same every time, each answer against the slow model's. */
public final class ModelTest {
    private static final int RUNS = 400, CALLS = 512;
    private static long seed = 20240607L;

    public static void main(String[] args) {
        Check check = new Check();
        for (int run = 0; run < RUNS && check.wrongOnes() == 0; run++) {
            run(check, run);
        }
        for (int run = 0; run < 400 && check.wrongOnes() == 0; run++) {
            wholeDuchy(check, run);
        }
        for (int run = 0; run < 3000 && check.wrongOnes() == 0; run++) {
            spoiltText(check, run);
        }
        check.end();
    }

    private static int some(int below) {
        seed = seed * 6364136223846793005L + 1442695040888963407L;
        return (int) ((seed >>> 33) % below);
    }

    /** Mostly a number that there is, now and then one beyond. */
    private static int near(int below) {
        int k = some(40);
        if (k == 0) return -1 - some(3);
        if (k == 1) return below + some(3);
        if (k == 2) return some(2) == 0 ? Integer.MAX_VALUE : Integer.MIN_VALUE;
        return below <= 0 ? 0 : some(below);
    }

    private static String someText() {
        StringBuilder text = new StringBuilder();
        int many = 1 + some(8);
        int crowd = some(6);
        int density = 1 + some(4);
        for (int i = 0; i < many + crowd; i++) {
            if (i < many && some(3) == 0) {
                text.append('z').append(some(10));
            } else {
                text.append(i < many ? "a" + some(10) : "p");
                int list = i < many ? some(density + 1) : some(7);
                for (int k = 0; k < list; k++) {
                    text.append(' ').append(some(12) == 0 ? some(8) : some(many));
                }
            }
            text.append(some(9) == 0 ? " ; " : ";");
        }
        if (some(2) == 0) text.append('o').append(1 + some(9)).append(';');
        return text.length() > 200 ? "z1;a2 0;p1;" : text.toString();
    }

    /** Eight sayings, few answers, one sound heard: all that can be asked of what comes to what. */
    private static void wholeDuchy(Check check, int run) {
        StringBuilder text = new StringBuilder("z1;");
        for (int w = 1; w < 8; w++) {
            text.append(some(6) == 0 ? "z1" : "a1 " + some(8) + " " + some(8)).append(';');
        }
        text.append("p0 1 2 3 ").append(some(8)).append(";p4 5 ").append(some(8)).append(' ').append(some(8)).append(';');
        AnswerSquare x = Check.made(text.toString());
        Model y = new Model();
        for (int i = 0; i < text.length(); i++) {
            y.type(text.charAt(i));
        }
        y.duchy();
        String where = "duchy " + run + " " + text + ": ";
        check.due(where + "hears(0)", x.hears(0), y.hears(0));
        check.due(where + "tells(1, 2)", x.tells(1, 2), y.tells(1, 2));
        for (int w = 0; w < 8; w++) {
            for (int i = -1; i < 8; i++) {
                check.due(where + "chain(" + w + ", " + i + ")", x.chain(w, i), y.chain(w, i));
            }
            int by = some(11);
            check.due(where + "odds(" + w + ", " + by + ", 0)", x.odds(w, by, 0), y.odds(w, by, 0));
            check.due(where + "odds(" + w + ", " + by + ", 1)", x.odds(w, by, 1), y.odds(w, by, 1));
        }
        for (int set = 0; set < 256; set += 1 + some(9)) {
            check.due(where + "sounds(" + set + ")", x.sounds(set), y.sounds(set));
            check.due(where + "began(" + set + ")", x.began(set), y.began(set));
            check.due(where + "orders(" + set + ")", x.orders(set), y.orders(set));
        }
    }

    private static void spoiltText(Check check, int run) {
        StringBuilder text = new StringBuilder(someText());
        String signs = "azpo;; 0123789bA\t,";
        for (int k = some(4); k > 0 && text.length() > 0; k--) {
            int place = some(text.length());
            char sign = signs.charAt(some(signs.length()));
            int how = some(3);
            if (how == 0) text.setCharAt(place, sign);
            else if (how == 1) text.insert(place, sign);
            else text.deleteCharAt(place);
        }
        AnswerSquare x = new AnswerSquare();
        Model y = new Model();
        for (int i = 0; i < text.length(); i++) {
            check.due("type", x.type(text.charAt(i)), y.type(text.charAt(i)));
        }
        check.due("text " + run + " '" + text + "'", x.duchy(), y.duchy());
        look(check, "text " + run + " '" + text + "'", x, y);
    }

    private static void look(Check check, String where, AnswerSquare x, Model y) {
        for (int w = -1; w <= 8; w++) {
            for (int what = -1; what <= 5; what++) {
                check.due(where + " saying(" + w + ", " + what + ")", x.saying(w, what), y.saying(w, what));
                check.due(where + " person(" + w + ", " + what + ")", x.person(w, what), y.person(w, what));
            }
        }
        for (int what = -1; what <= 6; what++) {
            check.due(where + " count(" + what + ")", x.count(what), y.count(what));
        }
    }

    private static void lookAtTalk(Check check, String where, AnswerSquare x, Model y) {
        for (int i = -1; i <= x.now(1); i++) {
            for (int what = -1; what <= 8; what++) {
                check.due(where + " talk(" + i + ", " + what + ")", x.talk(i, what), y.talk(i, what));
            }
            check.due(where + " worth(" + i + ")", x.worth(i), y.worth(i));
        }
        for (int what = -1; what <= 8; what++) {
            check.due(where + " now(" + what + ")", x.now(what), y.now(what));
        }
    }

    private static void run(Check check, int run) {
        AnswerSquare x = new AnswerSquare();
        Model y = new Model();
        for (int call = 0; call < CALLS && check.wrongOnes() == 0; call++) {
            String where = "run " + run + ", call " + call + ": ";
            if (call == 0 || some(150) == 0) {
                String text = someText();
                check.due(where + "clear()", x.clear(), y.clear());
                for (int i = 0; i < text.length(); i++) {
                    check.due(where + "type", x.type(text.charAt(i)), y.type(text.charAt(i)));
                }
                check.due(where + "duchy() of " + text, x.duchy(), y.duchy());
            } else if (some(3) == 0) {
                ask(check, where, x, y);
            } else {
                act(check, where, x, y);
            }
            if (some(60) == 0) {
                look(check, where, x, y);
                lookAtTalk(check, where, x, y);
            }
        }
    }

    private static void act(Check check, String where, AnswerSquare x, Model y) {
        int many = x.count(0);
        int p = near(x.count(1));
        int w = near(many);
        int v = near(many);
        int image = near(2);
        int k = some(24);
        if (k < 5) check.due(where + "hears(" + w + ")", x.hears(w), y.hears(w));
        else if (k < 15) saysOne(check, where, x, y);
        else if (k < 18) check.due(where + "hour()", x.hour(), y.hour());
        else if (k < 20) check.due(where + "undo()", x.undo(), y.undo());
        else if (k == 20) check.due(where + "tells(" + w + ", " + v + ")", x.tells(w, v), y.tells(w, v));
        else if (k == 21) check.due(where + "keep(" + image + ")", x.keep(image), y.keep(image));
        else if (k == 22) check.due(where + "back(" + image + ")", x.back(image), y.back(image));
        else if (some(5) == 0) check.due(where + "forget()", x.forget(), y.forget());
        else check.due(where + "says(" + p + ", " + w + ")", x.says(p, w), y.says(p, w));
    }

    /** Mostly what may be said, so that talk grows long. */
    private static void saysOne(Check check, String where, AnswerSquare x, Model y) {
        int p = near(x.count(1));
        int w = near(x.count(0));
        for (int tries = 0; tries < 20 && x.person(p, 1) > 0 && (x.person(p, 1) & 1 << w) == 0; tries++) {
            w = near(x.count(0));
        }
        check.due(where + "says(" + p + ", " + w + ")", x.says(p, w), y.says(p, w));
    }

    private static void ask(Check check, String where, AnswerSquare x, Model y) {
        int many = x.count(0);
        int w = near(many);
        int set = near(1 << many);
        int kind = near(6);
        int by = near(11);
        int what = near(2);
        int i = near(9) - 1;
        switch (some(9)) {
            case 0:
                check.due(where + "chain(" + w + ", " + i + ")", x.chain(w, i), y.chain(w, i));
                break;
            case 1:
                for (int s = -1; s <= many; s++) check.due(where + "chain(" + s + ", -1)", x.chain(s, -1), y.chain(s, -1));
                break;
            case 2:
                check.due(where + "sounds(" + set + ")", x.sounds(set), y.sounds(set));
                break;
            case 3:
                check.due(where + "began(" + set + ")", x.began(set), y.began(set));
                break;
            case 4:
                check.due(where + "odds(" + w + ", " + by + ", " + what + ")", x.odds(w, by, what), y.odds(w, by, what));
                break;
            case 5:
                check.due(where + "fits()", x.fits(), y.fits());
                break;
            case 6:
                check.due(where + "orders(" + set + ")", x.orders(set), y.orders(set));
                break;
            case 7:
                check.due(where + "mark(" + kind + ", " + w + ")", x.mark(kind, w), y.mark(kind, w));
                break;
            default:
                check.due(where + "trace()", x.trace(), y.trace());
                break;
        }
    }
}
