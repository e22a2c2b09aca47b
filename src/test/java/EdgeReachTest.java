/** The edges of promises 14 chain, 15 sounds, 16 began, 17 odds. */
public final class EdgeReachTest {
    private static final String LINE = "a1 1;a1 2;a1 3;a1 4;a1 5;a1 6;a1 7;z1;p0 1 2;p3 4 5 6;";
    private static final Check CHECK = new Check();

    public static void main(String[] args) {
        chainWhich();
        chainPlaces();
        chainOfASound();
        chainIsOneAtLeast();
        chainLongest();
        chainNone();
        chainAsLongAsThere();
        chainFewestAndFirst();
        chainAtTheLimits();
        soundsWhichSets();
        soundsOfNothing();
        soundsDoNotMatter();
        soundsFewestAndLeast();
        soundsNone();
        soundsWithWhatIsThere();
        soundsSaidAnew();
        beganWhichSets();
        beganOfNothing();
        beganAlone();
        oddsNumbers();
        oddsOfASound();
        oddsInLeastTerms();
        oddsOfWhatCannotBe();
        oddsOfSeveral();
        oddsDoNotLookAtTalk();
        CHECK.end();
    }

    private static Edge edge(String title) {
        return new Edge(CHECK, title);
    }

    private static void chainWhich() {
        edge("14: no such saying").read("z1;a2 0;p1;").due("hears 0", 0).still(1, "chain 1 -1")
                .outside("chain % -1", 0, 1, Edge.BAD).outside("chain % 0", 0, 1, Edge.BAD)
                .outside("chain 2 %", 0, -1, Edge.BAD);
        edge("14: eight of them").read(LINE).due("hears 7", 0).outside("chain % -1", 0, 7, Edge.BAD);
    }

    private static void chainPlaces() {
        edge("14: i below -1").read(LINE).outside("chain 0 %", -1, Integer.MAX_VALUE, Edge.BAD)
                .still(Edge.BAD, "chain 7 -2").due("hears 7", 0).outside("chain 0 %", -1, Integer.MAX_VALUE, Edge.BAD);
        edge("14: not so many").read(LINE).due("hears 7", 0).still(2, "chain 5 -1").still(6, "chain 5 0")
                .still(5, "chain 5 1").still(Edge.NONE, "chain 5 2").still(Edge.NONE, "chain 5 3")
                .still(Edge.NONE, "chain 5 7").still(Edge.NONE, "chain 5 8").still(Edge.NONE, "chain 5 32")
                .still(Edge.NONE, "chain 5 33").still(Edge.NONE, "chain 5 " + Integer.MAX_VALUE);
        edge("14: not so many, of seven").read(LINE).due("hears 7", 0).still(0, "chain 0 6")
                .still(Edge.NONE, "chain 0 7").still(Edge.NONE, "chain 0 8")
                .still(Edge.NONE, "chain 0 " + Integer.MAX_VALUE);
    }

    private static void chainOfASound() {
        edge("14: of a sound").read("z1;a2 0;p0 1;").still(Edge.NONE, "chain 0 -1").due("hears 0", 0)
                .still(Edge.NONE, "chain 0 -1").still(Edge.NONE, "chain 0 0").still(Edge.NONE, "chain 0 1")
                .still(Edge.BAD, "chain 0 -2");
    }

    private static void chainIsOneAtLeast() {
        edge("14: it is 1 at least").read("z1;a2 0;a3 2 1;p1 2;").due("hears 0", 0).due("says 0 1", 0)
                .still(1, "chain 1 -1").still(1, "chain 1 0").still(Edge.NONE, "chain 1 1").due("says 0 2", 1)
                .still(1, "chain 2 -1").still(2, "chain 2 0");
    }

    private static void chainLongest() {
        Edge edge = edge("14: as long as can be").read(LINE).due("hears 7", 0).still(7, "chain 0 -1");
        for (int i = 0; i < 7; i++) {
            edge.still(6 - i, "chain 0 " + i);
        }
        for (int w = 0; w < 7; w++) {
            edge.still(7 - w, "chain " + w + " -1");
        }
    }

    private static void chainNone() {
        edge("14: nothing is there").read("z1;a2 0;p1;").still(Edge.NONE, "chain 1 -1").still(Edge.NONE, "chain 1 0");
        edge("14: nobody knows it").read("z1;a2 0;a3 1;p2;").due("hears 0", 0).still(Edge.NONE, "chain 1 -1")
                .still(Edge.NONE, "chain 2 -1").still(Edge.NONE, "chain 2 0");
        edge("14: it answers nothing").read("z1;a2;a2 7;p1 2;").due("hears 0", 0).still(Edge.NONE, "chain 1 -1")
                .still(Edge.NONE, "chain 2 -1");
        edge("14: it answers itself alone").read("z1;a2 1;p1;").due("hears 0", 0).still(Edge.NONE, "chain 1 -1");
        edge("14: they answer each other alone").read("z1;a2 2;a2 1;p1 2;").due("hears 0", 0)
                .still(Edge.NONE, "chain 1 -1").still(Edge.NONE, "chain 2 -1");
        edge("14: another sound is there").read("z1;z1;a2 1;p2;").due("hears 0", 0).still(Edge.NONE, "chain 2 -1")
                .due("hears 1", 1).still(1, "chain 2 -1");
    }

    private static void chainAsLongAsThere() {
        for (int old = 1; old <= 9; old += 4) {
            edge("14: there, old " + old).read("z1;a2 0;a2 1;p1 2;o" + old + ";").due("hears 0", 0)
                    .times(old, "hour").still(2, "chain 2 -1").due("hour", old + 1).still(Edge.NONE, "chain 2 -1");
        }
        edge("14: what was said is there yet").read("z1;a2 0;a2 1;p1 2;o1;").due("hears 0", 0).due("hour", 1)
                .due("says 0 1", 0).due("hour", 2).still(Edge.NONE, "chain 1 -1").still(1, "chain 2 -1");
    }

    private static void chainFewestAndFirst() {
        edge("14: of several the first by numbers").read("z1;a1 0;a1 0;a1 1 2;p1 2 3;").due("hears 0", 0)
                .still(2, "chain 3 -1").still(1, "chain 3 0").still(3, "chain 3 1");
        edge("14: by the first of them, not the last").read("z1;a1 0;a1 0;a1 2;a1 1;a1 3 4;p1 2 3 4 5;")
                .due("hears 0", 0).still(3, "chain 5 -1").still(1, "chain 5 0").still(4, "chain 5 1")
                .still(5, "chain 5 2");
        edge("14: the first that leads on").read("z1;a1 0;a1 0;a1 2;p1 2 3;").due("hears 0", 0)
                .still(2, "chain 3 -1").still(2, "chain 3 0");
        edge("14: the fewest, not the first").read("z1;a1 0;a1 1;a1 2 4;a1 0;p1 2 3 4;").due("hears 0", 0)
                .still(2, "chain 3 -1").still(4, "chain 3 0").still(3, "chain 3 1");
        edge("14: by the first of two that it answers").read("z1;a1 0;a1 2;a1 1;a1 2;a1 3 4;p1 2 3 4 5;")
                .due("hears 0", 0).still(3, "chain 5 -1").still(1, "chain 5 0").still(3, "chain 5 1")
                .still(5, "chain 5 2");
        edge("14: by the second of two that it answers").read("z1;a1 0;a1 2;a1 2;a1 1;a1 3 4;p1 2 3 4 5;")
                .due("hears 0", 0).still(3, "chain 5 -1").still(1, "chain 5 0").still(4, "chain 5 1");
        edge("14: the first of all leads nowhere").read("a1 3;a1 2;a1 3;z1;p0 1 2;").due("hears 3", 0)
                .still(2, "chain 1 -1").still(2, "chain 1 0").still(1, "chain 1 1").still(1, "chain 0 -1");
        edge("14: by whomever").read("z1;a1 0;a1 1;p1;p2;").due("hears 0", 0).still(2, "chain 2 -1");
    }

    private static void chainAtTheLimits() {
        edge("14: a chain does not ask whether talk is full").read("z1;a1 0;a1 1;p1 2;").times(30, "hears 0")
                .still(2, "chain 2 -1").still(1, "chain 2 0").still(2, "chain 2 1");
    }

    private static void soundsWhichSets() {
        sets("15", "sounds", 0);
    }

    /** For each number of sayings, all of them sounds, the last set that there is and the first that there is not. */
    private static void sets(String promise, String name, int answerBits) {
        StringBuilder text = new StringBuilder();
        for (int many = 0; many <= 8; many++) {
            int all = (1 << many) - 1;
            edge(promise + ": bits of " + many + " sayings").read(text.toString())
                    .outside(name + " %", 0, all, Edge.BAD).still(all & answerBits, name + " " + all);
            text.append("z1;");
        }
        edge(promise + ": a bit beyond, and some within").read("z1;a2 0;p1;").still(Edge.BAD, name + " 5")
                .still(Edge.BAD, name + " 7").still(Edge.BAD, name + " 259")
                .still(Edge.BAD, name + " " + (Integer.MIN_VALUE + 3));
    }

    private static void soundsOfNothing() {
        edge("15: an empty set").still(0, "sounds 0").read("z1;a2 0;p1;").still(0, "sounds 0").due("hears 0", 0)
                .still(0, "sounds 0");
    }

    private static void soundsDoNotMatter() {
        edge("15: sounds do not matter").read("z1;a2 0;z3;p1;").still(0, "sounds 1").still(0, "sounds 4")
                .still(0, "sounds 5").still(1, "sounds 2").still(1, "sounds 6").still(1, "sounds 7");
    }

    private static void soundsFewestAndLeast() {
        edge("15: the fewest").read("z1;z1;z1;a1 0 2;a1 1 2;p3 4;").still(1, "sounds 8").still(2, "sounds 16")
                .still(4, "sounds 24");
        edge("15: of as few the least").read("z1;z1;z1;z1;a1 0 1;a1 2 3;p4 5;").still(5, "sounds 48");
        edge("15: of as few the least, told first").read("a1 2 4;a1 3 5;z1;z1;z1;z1;p0 1;").still(12, "sounds 3");
        edge("15: all of them").read("a1 4;a1 5;a1 6;a1 7;z1;z1;z1;z1;p0 1 2 3;").still(240, "sounds 15")
                .still(240, "sounds 255").still(128, "sounds 8");
        edge("15: one for all").read(LINE).still(128, "sounds 127").still(128, "sounds 1");
    }

    private static void soundsNone() {
        edge("15: nobody knows it").read("z1;a2 0;").still(Edge.NONE, "sounds 2");
        edge("15: nobody knows the first").read("a2 1;z1;p1;").still(Edge.NONE, "sounds 1").due("hears 1", 0)
                .still(Edge.NONE, "sounds 1").still(Edge.NONE, "chain 0 -1").still(0, "now 7").still(0, "orders 3");
        edge("15: it answers nothing").read("z1;a2;a2 7;p1 2;").still(Edge.NONE, "sounds 2").still(Edge.NONE, "sounds 4");
        edge("15: there is no sound").read("a2 0;p0;").still(Edge.NONE, "sounds 1").still(0, "sounds 0");
        edge("15: some can never be").read("z1;a2 0;a3 2;p1 2;").still(1, "sounds 2").still(Edge.NONE, "sounds 4")
                .still(Edge.NONE, "sounds 6");
    }

    private static void soundsWithWhatIsThere() {
        for (int old = 1; old <= 9; old += 4) {
            edge("15: what is there, old " + old).read("z1;z1;a2 0;a2 1;p2 3;o" + old + ";").still(3, "sounds 12")
                    .due("hears 0", 0).still(2, "sounds 12").still(0, "sounds 4").times(old, "hour")
                    .still(2, "sounds 12").due("hour", old + 1).still(3, "sounds 12").still(1, "sounds 4");
        }
        edge("15: a full talk").read("z1;z1;a2 0;a2 1;p2 3;").times(30, "hears 0").still(2, "sounds 12");
    }

    private static void soundsSaidAnew() {
        edge("15: what is there must be sayable yet").read("z1;a2 0;a3 1;p1 2;o1;").due("hears 0", 0).due("hour", 1)
                .due("says 0 1", 0).still(0, "sounds 2").due("hour", 2).still(2, "now 2").still(1, "sounds 2")
                .still(0, "sounds 4").still(1, "sounds 6");
    }

    private static void beganWhichSets() {
        sets("16", "began", 255);
    }

    private static void beganOfNothing() {
        edge("16: an empty set").still(0, "began 0").read("z1;a2 0;z1;p1;").still(5, "began 0").still(5, "began 5");
        edge("16: no sounds").read("a2 0;p0;").still(0, "began 0").still(0, "began 1");
        edge("16: all eight").read("z1;z1;z1;z1;z1;z1;z1;z1;").still(255, "began 0").still(255, "began 255");
    }

    private static void beganAlone() {
        edge("16: each of which alone").read("z1;z1;z1;a1 0 2;a1 1 2;p3 4;").still(5, "began 8").still(6, "began 16")
                .still(4, "began 24").still(4, "began 31");
        edge("16: none alone").read("z1;z1;a1 0;a1 1;p2 3;").still(0, "began 12").still(1, "began 4");
        edge("16: nobody knows it").read("z1;a2 0;").still(0, "began 2");
        edge("16: with nothing there").read("z1;z1;a1 0;a1 1;p2 3;").due("hears 0", 0).still(0, "began 12")
                .due("hears 1", 1).still(0, "began 12").still(1, "began 4").still(2, "began 8");
    }

    private static void oddsNumbers() {
        edge("17: no such saying").read("z1;a2 0;p1;").outside("odds % 5 0", 0, 1, Edge.BAD)
                .outside("odds % 5 1", 0, 1, Edge.BAD);
        edge("17: x is 0 .. 10").read("z1;a2 0;p1;").outside("odds 0 % 0", 0, 10, Edge.BAD)
                .outside("odds 1 % 1", 0, 10, Edge.BAD);
        edge("17: what is 0, 1").read("z1;a2 0;p1;").outside("odds 0 5 %", 0, 1, Edge.BAD)
                .outside("odds 1 0 %", 0, 1, Edge.BAD);
        edge("17: none of them as told").read("z1;").still(Edge.BAD, "odds 1 11 2").still(Edge.BAD, "odds -1 -1 -1");
    }

    private static Edge fraction(Edge edge, String of, int upper, int lower) {
        return edge.still(upper, "odds " + of + " 0").still(lower, "odds " + of + " 1");
    }

    private static void oddsOfASound() {
        int[] upper = {0, 1, 1, 3, 2, 1, 3, 7, 4, 9, 1};
        int[] lower = {1, 10, 5, 10, 5, 2, 5, 10, 5, 10, 1};
        Edge edge = edge("17: of a sound").read("z1;z1;a2 0;p;");
        for (int x = 0; x <= 10; x++) {
            fraction(edge, "0 " + x, upper[x], lower[x]);
            fraction(edge, "1 " + x, upper[x], lower[x]);
        }
    }

    private static void oddsInLeastTerms() {
        Edge edge = edge("17: in least terms").read("z1;z1;a2 0 1;p2;");
        fraction(edge, "2 0", 0, 1);
        fraction(edge, "2 10", 1, 1);
        fraction(edge, "2 5", 3, 4);
        fraction(edge, "2 2", 9, 25);
        fraction(edge, "2 8", 24, 25);
        fraction(edge, "2 1", 19, 100);
        fraction(edge, "2 9", 99, 100);
    }

    private static void oddsOfWhatCannotBe() {
        Edge edge = edge("17: what can never be said").read("z1;a2 0;a2 2;a2;p2 3;");
        for (int x = 0; x <= 10; x += 5) {
            for (int w = 1; w <= 3; w++) {
                fraction(edge, w + " " + x, 0, 1);
            }
        }
        fraction(edge("17: no sounds").read("a2 0;p0;"), "0 10", 0, 1);
    }

    private static void oddsOfSeveral() {
        Edge edge = edge("17: seven sounds").read("z1;z1;z1;z1;z1;z1;z1;a1 0 1 2 3 4 5 6;p7;");
        fraction(edge, "7 0", 0, 1);
        fraction(edge, "7 1", 5217031, 10000000);
        fraction(edge, "7 5", 127, 128);
        fraction(edge, "7 9", 9999999, 10000000);
        fraction(edge, "7 10", 1, 1);
        fraction(edge("17: sooner or later").read(LINE), "0 3", 3, 10);
        fraction(edge("17: the other sounds do not matter").read("z1;z1;z1;a1 1;p3;"), "3 3", 3, 10);
    }

    private static void oddsDoNotLookAtTalk() {
        Edge edge = edge("17: with nothing else there").read("z1;a2 0;a2 1;p1 2;").due("hears 0", 0).due("says 0 1", 0);
        fraction(edge, "0 3", 3, 10);
        fraction(edge, "1 3", 3, 10);
        fraction(edge, "2 3", 3, 10);
    }
}
