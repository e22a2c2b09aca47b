import java.util.ArrayList;
import java.util.List;

/** One sentence of the document, tried on an object of its own. Every row of it must hold. */
final class Edge {
    static final int BAD = -1, STATE = -2, FULL = -3, NONE = -9, NO = -1000000;

    private static final int[] FAR = {
        Integer.MIN_VALUE, Integer.MIN_VALUE + 1, -1000000, -65536, -256, -255, -33, -32, -31, -10, -9, -3, -2, 10, 12,
        13, 16, 30, 31, 32, 33, 63, 64, 65, 99, 100, 128, 200, 255, 256, 257, 288, 512, 65536, 1 << 30,
        Integer.MAX_VALUE - 1, Integer.MAX_VALUE};

    private final Check check;
    private final String title;
    private final AnswerSquare x = new AnswerSquare();
    private final List<Call> calls = new ArrayList<>();
    private List<String> seen;

    Edge(Check check, String title) {
        this.check = check;
        this.title = title;
    }

    private long call(Call call) {
        calls.add(call);
        seen = null;
        if (calls.size() > 512) {
            throw new IllegalStateException(title + ": more than 512 calls");
        }
        return call.on(x);
    }

    private Edge must(Call call, long got, long want) {
        check.due(title + ": behind " + calls.size() + " calls " + call, got, want);
        return this;
    }

    /** The call answers so. */
    Edge due(String text, long want) {
        Call call = Call.of(text);
        return must(call, call(call), want);
    }

    /** The call is taken as often. */
    Edge times(int many, String text) {
        Call call = Call.of(text);
        for (int k = 0; k < many; k++) {
            long got = call(call);
            must(call, got < 0 ? got : 0, 0);
        }
        return this;
    }

    /** The bytes come to the text, and all of them are taken. */
    Edge typed(String text) {
        int had = (int) call(Call.of("count 5"));
        for (int k = 0; k < text.length(); k++) {
            Call call = new Call("type", text.charAt(k), 0, 0);
            must(call, call(call), had + k + 1);
        }
        return this;
    }

    /** The text is typed and taken. */
    Edge read(String text, int items) {
        return typed(text).due("duchy", items);
    }

    Edge read(String text) {
        return typed(text).times(1, "duchy");
    }

    /** The calls, one behind another, change nothing in all, and the last of them answers so. */
    Edge still(long want, String... texts) {
        if (seen == null) {
            seen = Sight.of(calls);
        }
        List<Call> more = new ArrayList<>(calls);
        AnswerSquare other = new AnswerSquare();
        for (Call call : calls) {
            call.on(other);
        }
        long got = 0;
        Call last = null;
        for (String text : texts) {
            last = Call.of(text);
            more.add(last);
            got = last.on(other);
        }
        must(last, got, want);
        return alike("nothing changes by " + String.join(", ", texts), seen, Sight.of(more));
    }

    /** All that can be seen is as it is of the other object. */
    Edge sameAs(Edge other) {
        return alike("as the other", Sight.of(other.calls), Sight.of(calls));
    }

    private Edge alike(String what, List<String> want, List<String> got) {
        boolean same = want.equals(got);
        check.due(title + ": behind " + calls.size() + " calls " + what + (same ? "" : difference(want, got)), same ? 1 : 0, 1);
        return this;
    }

    private static String difference(List<String> want, List<String> got) {
        for (int k = 0; k < want.size() && k < got.size(); k++) {
            if (!want.get(k).equals(got.get(k))) {
                return " (" + want.get(k) + " is due, not " + got.get(k) + ")";
            }
        }
        return "";
    }

    /** With numbers just beyond least and most, and far beyond, in the place of %, the call is refused. */
    Edge outside(String pattern, int least, int most, long want) {
        beyond(pattern, least - 1, want);
        if (most < Integer.MAX_VALUE) {
            beyond(pattern, most + 1, want);
        }
        for (int number : FAR) {
            if (number < least || number > most) {
                beyond(pattern, number, want);
            }
        }
        return this;
    }

    private void beyond(String pattern, int number, long want) {
        still(want, pattern.replace("%", Integer.toString(number)));
    }
}
