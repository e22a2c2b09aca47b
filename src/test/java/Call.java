/** A call as a test writes it: its name and its numbers, "says 0 1". */
record Call(String name, int a, int b, int c) {

    static Call of(String text) {
        String[] words = text.trim().split(" +");
        int[] numbers = new int[3];
        for (int k = 1; k < words.length; k++) {
            numbers[k - 1] = Integer.parseInt(words[k]);
        }
        return new Call(words[0], numbers[0], numbers[1], numbers[2]);
    }

    long on(AnswerSquare x) {
        switch (name) {
            case "type": return x.type(a);
            case "clear": return x.clear();
            case "duchy": return x.duchy();
            case "saying": return x.saying(a, b);
            case "person": return x.person(a, b);
            case "talk": return x.talk(a, b);
            case "hears": return x.hears(a);
            case "says": return x.says(a, b);
            case "hour": return x.hour();
            case "undo": return x.undo();
            case "now": return x.now(a);
            case "worth": return x.worth(a);
            case "chain": return x.chain(a, b);
            case "sounds": return x.sounds(a);
            case "began": return x.began(a);
            case "odds": return x.odds(a, b, c);
            case "tells": return x.tells(a, b);
            case "forget": return x.forget();
            case "fits": return x.fits();
            case "orders": return x.orders(a);
            case "mark": return x.mark(a, b);
            case "keep": return x.keep(a);
            case "back": return x.back(a);
            case "count": return x.count(a);
            case "trace": return x.trace();
            default: throw new IllegalStateException("no such call: " + name);
        }
    }
}
