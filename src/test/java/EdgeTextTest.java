/** The edges of promises 2 type, 3 clear and 4 duchy, and of what the document says of a text. */
public final class EdgeTextTest {
    private static final String BLANKS = " ".repeat(197);
    private static final Check CHECK = new Check();

    public static void main(String[] args) {
        byteIsFrom0To255();
        textHas200BytesAtMost();
        badComesAheadOfFull();
        clearOfNothing();
        clearOfAll();
        clearLeavesAllElse();
        emptyTextTellsNothing();
        fullTextIsRead();
        faultsAtTheFullTextsEnd();
        eightSayings();
        fivePeople();
        oldOnce();
        fourteenItems();
        worthyFrom0To9();
        answersUpToEightNumbers();
        knowsUpToEightNumbers();
        soundHasOneNumber();
        oldFrom1To9();
        numbersAreOfSayingsUpTo7();
        blanksBetweenTokens();
        bytesThatBeginNoToken();
        lettersSideBySide();
        lettersThatBeginNoItem();
        itemsBeginWithLetters();
        whatCannotStandInAnItem();
        numbersAbove99();
        numbersWithA0Ahead();
        textEndsTooEarly();
        theFirstFaultCounts();
        whatIsNoSayingDoesNotMatter();
        numberedTogether();
        toldAheadOrBehind();
        readAnew();
        CHECK.end();
    }

    private static Edge edge(String title) {
        return new Edge(CHECK, title);
    }

    private static void byteIsFrom0To255() {
        edge("2: a byte is 0 .. 255").outside("type %", 0, 255, Edge.BAD).due("type 0", 1).due("type 255", 2)
                .outside("type %", 0, 255, Edge.BAD).due("count 5", 2);
    }

    private static void textHas200BytesAtMost() {
        Edge edge = edge("2: 200 bytes at most");
        for (int k = 1; k <= 200; k++) {
            edge.due("type 32", k);
        }
        edge.still(Edge.FULL, "type 32").still(Edge.FULL, "type 0").still(Edge.FULL, "type 255")
                .still(Edge.FULL, "type 59").due("count 5", 200);
    }

    private static void badComesAheadOfFull() {
        edge("2: BAD ahead of FULL").times(200, "type 32").outside("type %", 0, 255, Edge.BAD);
    }

    private static void clearOfNothing() {
        edge("3: an empty text").still(0, "clear").due("type 122", 1).due("clear", 1).still(0, "clear");
    }

    private static void clearOfAll() {
        edge("3: a full text").times(200, "type 122").due("clear", 200).due("count 5", 0).still(0, "clear")
                .due("type 122", 1);
    }

    private static void clearLeavesAllElse() {
        used("3: clear empties the text alone").still(3, "type 122", "type 49", "type 59", "clear");
    }

    /** An object of which everything would show that it was read anew. */
    private static Edge used(String title) {
        return edge(title).read("z5;a6 0;a7 1;p1;o4;").due("hears 0", 0).due("hour", 1).due("keep 0", 1)
                .due("says 0 1", 0).due("hour", 2).due("tells 0 1", 1).due("keep 1", 2).due("mark 5 1", 8);
    }

    /** A text that is taken: it is empty then, and all is as of a new object that reads it. */
    private static void taken(String title, String text, int items) {
        Edge anew = edge(title + ", new '" + text + "'").read(text, items).due("count 5", 0);
        Edge used = edge(title + ", again '" + text + "'").read("z5;a6 0;a7 1;p1;o4;").due("hears 0", 0)
                .due("hour", 1).due("keep 0", 1).due("says 0 1", 0).due("tells 0 1", 1).due("keep 1", 1)
                .read(text, items);
        used.sameAs(anew);
    }

    /** A text with a fault: nothing changes, the text neither. */
    private static void fault(String title, String text, int place) {
        used(title + " '" + text + "'").typed(text).still(-10 - place, "duchy").due("count 5", text.length());
    }

    private static void emptyTextTellsNothing() {
        taken("4: an empty text", "", 0);
        taken("4: one blank", " ", 0);
        taken("4: blanks alone", BLANKS + "   ", 0);
    }

    private static void fullTextIsRead() {
        edge("4: 200 bytes").read("z1;" + BLANKS, 1).due("count 0", 1).due("count 5", 0).due("type 32", 1);
        edge("4: 200 bytes").read(BLANKS + "z1;", 1).due("count 0", 1).due("saying 0 1", 1);
        edge("4: 200 bytes").read("z" + BLANKS + "1;", 1).due("saying 0 1", 1);
        edge("4: 200 bytes").read("z1" + BLANKS + ";", 1).due("saying 0 1", 1);
    }

    private static void faultsAtTheFullTextsEnd() {
        edge("4: place 199").typed("  " + BLANKS + ";").still(-209, "duchy");
        edge("4: place 199").typed("z1" + BLANKS + "1").still(-209, "duchy");
        edge("4: the length, 200").typed("  " + BLANKS + "z").still(-210, "duchy");
        edge("4: the length, 200").typed("z1" + BLANKS + " ").still(-210, "duchy");
        edge("4: the length, 200").typed("p1" + BLANKS + "7").still(-210, "duchy");
        edge("4: a number of 199 bytes").typed("z" + "1".repeat(199)).still(-11, "duchy");
        edge("4: letters of 200 bytes").typed("z".repeat(200)).still(-10, "duchy");
    }

    private static void eightSayings() {
        taken("terms: the eighth saying", "a0;a0;a0;a0;a0;a0;a0;a7;", 8);
        taken("terms: the eighth sound", "z0;z0;z0;z0;z0;z0;z0;z7;", 8);
        taken("terms: eight together", "a0;z0;a0;z0;a0;z0;a0;z7;", 8);
        fault("terms: a ninth saying", "a0;a0;a0;a0;a0;a0;a0;a0; a0;", 25);
        fault("terms: a ninth sound", "z0;z0;z0;z0;z0;z0;z0;z0; z0;", 25);
        fault("terms: a ninth of both", "a0;z0;a0;z0;a0;z0;a0;z0;a0;", 24);
        fault("terms: a ninth of both", "a0;z0;a0;z0;a0;z0;a0;z0;z0;", 24);
        fault("terms: a ninth, people between", "a0;z0;a0;z0;p;a0;z0;a0;z0;p;z", 28);
        edge("terms: the eighth").read("a0;z0;a0;z0;a0;z0;a0;z7;").due("count 0", 8).due("saying 7 1", 7)
                .due("saying 7 0", 1).due("saying 8 0", Edge.BAD);
    }

    private static void fivePeople() {
        taken("terms: the fifth person", "p;p;p;p;p;", 5);
        fault("terms: a sixth person", "p;p;p;p;p;p;", 10);
        fault("terms: a sixth person", "p;p;p;p;p;z1; p", 14);
        edge("terms: the fifth").read("z1;p;p;p;p;p0;").due("count 1", 5).due("person 4 0", 1)
                .due("person 5 0", Edge.BAD);
    }

    private static void oldOnce() {
        taken("terms: o once", "o1;", 1);
        fault("terms: o again", "o1;o1;", 3);
        fault("terms: o again", "o3;z1; o3;", 7);
        fault("terms: o again, not yet ended", "o9;o", 3);
    }

    private static void fourteenItems() {
        String all = "a0;z0;a0;z0;a0;z0;a0;z0;p;p;p;p;p;o3;";
        taken("4: how many items", all, 14);
        taken("4: o first", "o3;p;p;p;p;p;a0;z0;a0;z0;a0;z0;a0;z0;", 14);
        fault("4: a fifteenth", all + "o3;", 37);
        fault("4: a fifteenth", all + "p;", 37);
        fault("4: a fifteenth", all + "z1;", 37);
        fault("4: a fifteenth", all + " a1;", 38);
        fault("4: anything behind all of them", all + " 1", 38);
        fault("4: anything behind all of them", all + ";", 37);
        fault("4: anything behind all of them", all + "\0", 37);
    }

    private static void worthyFrom0To9() {
        for (String letter : new String[] {"a", "z"}) {
            taken("terms: worthy 0", letter + "0;", 1);
            taken("terms: worthy 9", letter + "9;", 1);
            fault("terms: worthy 10", letter + "10;", 1);
            fault("terms: worthy 99", letter + " 99;", 2);
            fault("terms: worthy nothing", letter + ";", 1);
            fault("terms: worthy by letters", letter + " a;", 2);
            edge("terms: worthy 0 and 9").read(letter + "0;" + letter + "9;").due("saying 0 1", 0).due("saying 1 1", 9);
        }
    }

    private static void answersUpToEightNumbers() {
        taken("terms: answers 0 numbers", "a5;", 1);
        taken("terms: answers 1 number", "a5 0;", 1);
        taken("terms: answers 8 numbers", "a5 0 1 2 3 4 5 6 7;", 1);
        taken("terms: answers 8 alike numbers", "a5 0 0 0 0 0 0 0 0;", 1);
        fault("terms: a ninth of what is answered", "a5 0 1 2 3 4 5 6 7 0;", 19);
        fault("terms: a ninth of what is answered, alike", "a5 7 7 7 7 7 7 7 7 7;", 19);
        fault("terms: a ninth of the second saying", "a5;a5 0 1 2 3 4 5 6 7 0;", 22);
        edge("terms: 0 and 8 numbers").read("a5;a5 0 1 2 3 4 5 6 7;z0;z0;z0;z0;z0;z0;").due("saying 0 2", 0)
                .due("saying 1 2", 255);
    }

    private static void knowsUpToEightNumbers() {
        taken("terms: knows 0 numbers", "p;", 1);
        taken("terms: knows 1 number", "p0;", 1);
        taken("terms: knows 8 numbers", "p0 1 2 3 4 5 6 7;", 1);
        fault("terms: a ninth of what is known", "p0 1 2 3 4 5 6 7 0;", 17);
        fault("terms: a ninth of what is known, alike", "p1 1 1 1 1 1 1 1 1;", 17);
        edge("terms: 0 and 8 numbers").read("p;p0 1 2 3 4 5 6 7;z0;z0;z0;z0;z0;z0;z0;z0;").due("person 0 0", 0)
                .due("person 1 0", 255);
    }

    private static void soundHasOneNumber() {
        fault("terms: a second number of a sound", "z1 1;", 3);
        fault("terms: a second number of a sound", "z0 0;", 3);
        fault("terms: a sound without a number", "z;", 1);
    }

    private static void oldFrom1To9() {
        for (int old = 1; old <= 9; old++) {
            edge("terms: old").read("o" + old + ";", 1).due("count 2", old);
        }
        fault("terms: old 0", "o0;", 1);
        fault("terms: old 10", "o10;", 1);
        fault("terms: old nothing", "o;", 1);
        fault("terms: old twice", "o1 1;", 3);
        edge("terms: 3 at first").due("count 2", 3).read("o9;").due("count 2", 9).read("z1;").due("count 2", 3);
        edge("terms: 3 at first").read("o1;").due("count 2", 1).due("duchy", 0).due("count 2", 3);
    }

    private static void numbersAreOfSayingsUpTo7() {
        taken("terms: answers 7", "a1 7;", 1);
        taken("terms: knows 7", "p7;", 1);
        fault("terms: answers 8", "a1 8;", 3);
        fault("terms: answers 9", "a1 0 9;", 5);
        fault("terms: answers 10", "a1 10;", 3);
        fault("terms: answers 99", "a1 99;", 3);
        fault("terms: knows 8", "p8;", 1);
        fault("terms: knows 9", "p0 9;", 3);
        fault("terms: knows 10", "p10;", 1);
        fault("terms: 8 is the ninth", "a1 0 0 0 0 0 0 0 0 8;", 19);
        fault("terms: 8 is the eighth", "a1 0 0 0 0 0 0 0 8;", 17);
    }

    private static void blanksBetweenTokens() {
        taken("terms: no blanks", "a1;z2;p;o3;", 4);
        taken("terms: blanks everywhere", "  a  1  ;  z  2  ;  p  ;  o  3  ;  ", 4);
        taken("terms: letters and a number need none", "a1 0;p0;", 2);
        fault("terms: numbers need one", "a10;", 1);
        for (int c : new int[] {0, 9, 10, 11, 12, 13, 31, 33, 95, 127, 160, 255}) {
            fault("terms: a blank is 32 alone, not " + c, "z1" + (char) c + ";", 2);
            fault("terms: a blank is 32 alone, not " + c, (char) c + "z1;", 0);
            fault("terms: a blank is 32 alone, not " + c, "z1; " + (char) c, 4);
        }
    }

    private static void bytesThatBeginNoToken() {
        for (int c : new int[] {'a' - 1, 'z' + 1, 'A', 'Z', '0' - 1, '9' + 1, ';' + 1, '-', '+', '.', 'z' + 128}) {
            fault("terms: a byte that begins none, " + c, (char) c + "1;", 0);
            fault("terms: a byte that begins none, " + c, "z" + (char) c + "1;", 1);
            fault("terms: a byte that begins none, " + c, "a1" + (char) c + ";", 2);
            fault("terms: a byte that begins none, " + c, "p1 " + (char) c + ";", 3);
            fault("terms: a byte that begins none, " + c, "o1;" + (char) c, 3);
        }
        fault("terms: a byte behind letters that stand", "a" + (char) ('a' - 1), 1);
        fault("terms: a byte behind letters that stand", "z" + (char) ('z' + 1), 1);
    }

    private static void lettersSideBySide() {
        fault("terms: letters side by side", "az1;", 0);
        fault("terms: letters side by side", "zz1;", 0);
        fault("terms: letters side by side", "pp;", 0);
        fault("terms: letters side by side", " oo1;", 1);
        fault("terms: letters side by side", "z1;pz1;", 3);
        fault("terms: letters apart are two", "p p;", 2);
        fault("terms: letters apart are two", "a z1;", 2);
    }

    private static void lettersThatBeginNoItem() {
        for (char c = 'a'; c <= 'z'; c++) {
            if ("azpo".indexOf(c) < 0) {
                fault("terms: letters that begin no item", c + "1;", 0);
                fault("terms: letters that begin no item", "z1; " + c + ";", 4);
            }
        }
    }

    private static void itemsBeginWithLetters() {
        fault("terms: ; begins no item", ";", 0);
        fault("terms: ; begins no item", "z1;;", 3);
        fault("terms: ; begins no item", "p; ;", 3);
        fault("terms: a number begins no item", "1;", 0);
        fault("terms: a number begins no item", "z1;0", 3);
        fault("terms: a number begins no item, as large as a letter", "97 1;", 0);
    }

    private static void whatCannotStandInAnItem() {
        fault("terms: letters within a saying", "a1 a2;", 3);
        fault("terms: letters within a saying", "a1 0z;", 4);
        fault("terms: letters within a sound", "z1p;", 2);
        fault("terms: letters within a person", "p0p;", 2);
        fault("terms: letters within a person", "pz1;", 0);
        fault("terms: letters within a person", "p z1;", 2);
        fault("terms: letters within old", "o1o;", 2);
        fault("terms: letters that are more than one", "z1zz;", 2);
        fault("terms: letters where a number may stand", "z zz;", 2);
        fault("terms: letters where a number may stand", "a zz;", 2);
        fault("terms: letters where a number may stand", "a1 zz;", 3);
        fault("terms: letters where a number may stand", "p zz;", 2);
        fault("terms: letters where a number may stand", "o zz;", 2);
    }

    private static void numbersAbove99() {
        fault("terms: a number above 99", "z100;", 1);
        fault("terms: a number above 99", "a1 100;", 3);
        fault("terms: a number above 99", "p 128;", 2);
        fault("terms: a number above 99", "o256;", 1);
        fault("terms: it does not wrap", "z65536;", 1);
        fault("terms: it does not wrap", "z4294967296;", 1);
        fault("terms: it does not wrap", "o4294967297;", 1);
        fault("terms: it does not wrap", "p18446744073709551616;", 1);
        fault("terms: it does not wrap", "a1 18446744073709551617;", 3);
        fault("terms: it does not wrap", "z" + "9".repeat(150) + ";", 1);
        fault("terms: a number above 99 where none may stand", "100;", 0);
    }

    private static void numbersWithA0Ahead() {
        taken("terms: 0 alone", "z0;a0 0;p0;", 3);
        fault("terms: a 0 ahead", "z00;", 1);
        fault("terms: a 0 ahead", "z01;", 1);
        fault("terms: a 0 ahead", "z09;", 1);
        fault("terms: a 0 ahead", "a1 07;", 3);
        fault("terms: a 0 ahead", "a1 0 00;", 5);
        fault("terms: a 0 ahead", "p000;", 1);
        fault("terms: a 0 ahead", "o01;", 1);
        fault("terms: a 0 ahead where none may stand", "01;", 0);
    }

    private static void textEndsTooEarly() {
        fault("terms: it ends too early", "a", 1);
        fault("terms: it ends too early", "z", 1);
        fault("terms: it ends too early", "p", 1);
        fault("terms: it ends too early", "o", 1);
        fault("terms: it ends too early", "a1", 2);
        fault("terms: it ends too early", "z1", 2);
        fault("terms: it ends too early", "o1", 2);
        fault("terms: it ends too early", "a1 0", 4);
        fault("terms: it ends too early", "p0", 2);
        fault("terms: it ends too early, all eight told", "p0 1 2 3 4 5 6 7", 16);
        fault("terms: it ends too early, all eight told", "a1 0 1 2 3 4 5 6 7", 18);
        fault("terms: its length has the blanks, too", "  z  ", 5);
        fault("terms: its length has the blanks, too", "z1 ", 3);
        fault("terms: its length has the blanks, too", "p; z1;a2   ", 11);
    }

    private static void theFirstFaultCounts() {
        fault("terms: the first token", "z1; q \t 100", 4);
        fault("terms: the first token", "z1; \t q", 4);
        fault("terms: the first token", "z10;z", 1);
        fault("terms: the first token", "o0;o0;", 1);
        fault("terms: the first token", "b", 0);
    }

    private static void whatIsNoSayingDoesNotMatter() {
        edge("terms: what is no saying").read("a5 7 3 1;z1;p7 2 1;", 3).due("saying 0 2", 2).due("person 0 0", 2)
                .due("saying 1 3", 1).due("mark 1 0", 5 + 1).due("mark 4 0", 5);
    }

    private static void numberedTogether() {
        edge("terms: numbered together").read("z1;p;a2 0;o5;z3;p;a4 0;", 7).due("count 0", 4).due("count 1", 2)
                .due("saying 0 0", 1).due("saying 1 0", 0).due("saying 2 0", 1).due("saying 3 0", 0)
                .due("saying 0 1", 1).due("saying 1 1", 2).due("saying 2 1", 3).due("saying 3 1", 4);
    }

    private static void toldAheadOrBehind() {
        edge("terms: told ahead or behind").read("p0 1;a1 2 0;a1 1 0;z1;", 4).due("saying 0 2", 5)
                .due("saying 1 2", 3).due("person 0 0", 3).due("saying 0 3", 1).due("saying 2 3", 0);
        edge("terms: the last told, first answered").read("a1 7;a1;a1;a1;a1;a1;a1;z1;p0 7;").due("saying 0 2", 128)
                .due("saying 7 3", 1).due("hears 7", 0).due("says 0 0", 0);
    }

    private static void readAnew() {
        Edge anew = edge("read anew").read("z1;a2 0;p1;");
        Edge used = edge("read anew").read("z5;a6 0;p1;o4;").due("hears 0", 0).due("hour", 1).due("keep 0", 1)
                .due("keep 1", 1).due("tells 0 1", 1).read("z1;a2 0;p1;").due("now 0", 0).due("now 1", 0)
                .due("count 3", 0).due("count 4", 0).due("count 2", 3);
        used.still(Edge.STATE, "back 0").still(Edge.STATE, "back 1").still(Edge.STATE, "undo").sameAs(anew);
        used("read anew: the trace goes on").read("z1;").due("trace", 100001);
        edge("read anew: a third time").read("z9;z9;p0 1;o9;").read("p;o1;").read("a1;a2;").still(0, "saying 0 0")
                .still(0, "saying 1 0").sameAs(edge("read anew: the third alone").read("a1;a2;"));
        edge("read anew: behind a fault").typed("z9;z9;p0 1;o9;q").still(-24, "duchy").due("clear", 15).read("a1;a2;")
                .sameAs(edge("read anew: without the fault").read("a1;a2;"));
        edge("read anew: the same text").read("z1;a2 0;p1;").due("hears 0", 0).read("z1;a2 0;p1;").sameAs(anew);
    }
}
