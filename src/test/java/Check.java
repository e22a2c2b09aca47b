/** Counts the answers that are not as due, and types texts. */
final class Check {
    private int wrong = 0;
    private int looked = 0;

    void due(String call, long got, long want) {
        looked++;
        if (got != want) {
            wrong++;
            if (wrong <= 50) {
                System.out.println(call + " answered " + got + ", due is " + want);
            }
        }
    }

    int wrongOnes() {
        return wrong;
    }

    void end() {
        System.out.println(looked + " answers looked at, " + wrong + " not as due");
        if (wrong != 0 || looked == 0) {
            System.exit(1);
        }
    }

    static AnswerSquare type(AnswerSquare x, String text) {
        for (int i = 0; i < text.length(); i++) {
            x.type(text.charAt(i));
        }
        return x;
    }

    /** What duchy() answers to a text on an object whose text is empty. */
    static int read(AnswerSquare x, String text) {
        x.clear();
        return type(x, text).duchy();
    }

    static AnswerSquare made(String text) {
        AnswerSquare x = new AnswerSquare();
        if (read(x, text) < 0) {
            throw new IllegalStateException("a test's text is not taken: " + text);
        }
        return x;
    }
}
