import java.util.ArrayList;
import java.util.List;

/**
 * All that can be seen of an object that has had some calls. Looking takes many calls, and some of them change it, so
 * that each look has an object of its own: none has more than the 512 calls for which the document speaks.
 */
final class Sight {
    private static final int MOST_CALLS = 512;

    private final List<Call> calls;
    private final List<String> seen = new ArrayList<>();
    private AnswerSquare x;
    private int used;

    private Sight(List<Call> calls) {
        this.calls = calls;
    }

    static List<String> of(List<Call> calls) {
        Sight sight = new Sight(calls);
        sight.lookAtAll();
        return sight.seen;
    }

    private void lookAtAll() {
        anew();
        duchyAndNow();
        anew();
        wholeTalk(8);
        anew();
        whatComesToWhat();
        anew();
        marks();
        anew();
        undoAll();
        for (int image = 0; image < 2; image++) {
            anew();
            image(image);
        }
        anew();
        readText();
    }

    private void anew() {
        x = new AnswerSquare();
        used = 0;
        for (Call call : calls) {
            call.on(x);
            used++;
        }
    }

    private long see(String name, int... numbers) {
        int a = numbers.length > 0 ? numbers[0] : 0;
        int b = numbers.length > 1 ? numbers[1] : 0;
        int c = numbers.length > 2 ? numbers[2] : 0;
        used++;
        if (used > MOST_CALLS) {
            throw new IllegalStateException("a test's object has more than 512 calls");
        }
        long answer = new Call(name, a, b, c).on(x);
        seen.add(name + "(" + a + ", " + b + ", " + c + ") " + answer);
        return answer;
    }

    private void each(String name, int below) {
        for (int k = 0; k < below; k++) {
            see(name, k);
        }
    }

    private void each(String name, int below, int whats) {
        for (int k = 0; k < below; k++) {
            for (int what = 0; what < whats; what++) {
                see(name, k, what);
            }
        }
    }

    private void duchyAndNow() {
        each("count", 6);
        each("now", 8);
        each("saying", 8, 5);
        each("person", 5, 3);
        each("worth", 30);
        see("fits");
        see("trace");
    }

    private void wholeTalk(int whats) {
        int size = (int) see("now", 1);
        each("talk", size, whats);
    }

    private void whatComesToWhat() {
        for (int w = 0; w < 8; w++) {
            for (int i = -1; i < 8; i++) {
                see("chain", w, i);
            }
            see("odds", w, 3, 0);
            see("odds", w, 3, 1);
        }
        set(0);
        set(255);
        for (int w = 0; w < 8; w++) {
            for (int v = 0; v <= w; v++) {
                set(1 << w | 1 << v);
            }
        }
    }

    private void set(int bits) {
        see("sounds", bits);
        see("began", bits);
        see("orders", bits);
    }

    private void marks() {
        each("mark", 6, 8);
        see("trace");
    }

    private void undoAll() {
        for (int k = 0; k < 14; k++) {
            see("undo");
            see("now", 0);
            see("now", 1);
            see("now", 2);
            see("count", 4);
        }
    }

    private void image(int image) {
        see("back", image);
        see("now", 0);
        see("count", 4);
        wholeTalk(4);
        undoAll();
    }

    private void readText() {
        see("duchy");
        each("count", 6);
        each("saying", 8, 5);
        each("person", 5, 3);
    }
}
