/** The edges of promises 22 mark, 23 keep, 24 back, 25 count, 26 trace. */
public final class EdgeKindsTest {
    private static final Check CHECK = new Check();

    public static void main(String[] args) {
        kindsFrom0To5();
        marksOfSayingsThereAre();
        marksOfEachKind();
        marksOfLeast();
        marksOfMost();
        marksBelow0();
        marksChangeTheTraceAlone();
        traceAtFirst();
        traceOfEachKind();
        traceGoesOn();
        imagesAre0And1();
        keepAnswersTheHour();
        keepOver();
        keepNothingElse();
        backNoneKept();
        backBadAheadOfState();
        backIsAsKept();
        backOfTheFull();
        backWhatMayBeUndone();
        imagesAreGone();
        countWhats();
        countsOfLeastAndMost();
        CHECK.end();
    }

    private static Edge edge(String title) {
        return new Edge(CHECK, title);
    }

    private static void kindsFrom0To5() {
        edge("22: kinds are 0 .. 5").read("z4;a2 0;p1;").outside("mark % 0", 0, 5, Edge.NO)
                .outside("mark % 1", 0, 5, Edge.NO).due("mark 0 0", 4).due("mark 5 0", 4);
    }

    private static void marksOfSayingsThereAre() {
        Edge edge = edge("22: no such saying").read("z4;a2 0;p1;");
        for (int kind = 0; kind < 6; kind++) {
            edge.outside("mark " + kind + " %", 0, 1, Edge.NO);
        }
        edge("22: the eighth").read("z0;z0;z0;z0;z0;z0;z0;z7;").outside("mark 0 %", 0, 7, Edge.NO).due("mark 0 7", 7);
        edge("22: neither").read("z1;").still(Edge.NO, "mark 6 1").still(Edge.NO, "mark -1 -1");
    }

    private static void marksOfEachKind() {
        edge("22: each kind").read("z1;a7 0 1 2 6;a2 1;p1 2;p1;p1 0;").due("hears 0", 0).due("says 0 1", 0)
                .due("says 1 1", 1).times(2, "hour").due("mark 0 1", 7).due("mark 1 1", 7 + 3)
                .due("mark 2 1", 7 - 2).due("mark 3 1", (7 + 3) * 2).due("mark 4 1", 7 - 2 + 3)
                .due("mark 5 1", 7 + 2);
    }

    private static void marksOfLeast() {
        Edge edge = edge("22: of nothing").read("z0;a0;");
        for (int kind = 0; kind < 6; kind++) {
            edge.due("mark " + kind + " 0", 0).due("mark " + kind + " 1", 0);
        }
    }

    private static void marksOfMost() {
        edge("22: of most").read("a9 0 1 2 3 4 5 6 7;a1;a1;a1;a1;a1;a1;z9;p0 7;p0 7;p0 7;p0 7;p0 7;")
                .times(99, "hour").due("mark 0 0", 9).due("mark 1 0", 17).due("mark 2 0", 9).due("mark 3 0", 34)
                .due("mark 4 0", 14).due("mark 5 0", 108).times(30, "hears 7").due("mark 2 7", -21)
                .due("mark 4 7", -16).due("mark 1 7", 9);
    }

    private static void marksBelow0() {
        edge("22: below 0").read("z0;").times(30, "hears 0").due("mark 2 0", -30).due("mark 4 0", -30)
                .due("mark 0 0", 0);
        edge("22: below 0, as BAD and STATE are").read("z0;").due("hears 0", 0).due("mark 2 0", Edge.BAD)
                .due("trace", 101).due("hears 0", 1).due("mark 2 0", Edge.STATE).due("trace", 202);
    }

    private static void marksChangeTheTraceAlone() {
        Edge marked = edge("22: a mark changes the trace alone").read("z1;a2 0;p1;").due("hears 0", 0).due("hour", 1)
                .due("mark 3 1", 6).due("mark 4 1", 3).due("mark 5 1", 3);
        Edge other = edge("22: the same by others").read("z1;a2 0;p1;").due("hears 0", 0).due("hour", 1)
                .due("mark 5 0", 2).due("mark 4 0", 0).due("mark 3 0", 2);
        marked.sameAs(other).still(1, "now 0").still(2, "count 4");
    }

    private static void traceAtFirst() {
        edge("26: at first").still(0, "trace").read("z1;").still(0, "trace");
    }

    private static void traceOfEachKind() {
        int[] steps = {1, 11, 101, 1011, 10101, 100001};
        for (int kind = 0; kind < steps.length; kind++) {
            edge("26: kind " + kind).read("z1;").due("mark " + kind + " 0", x(kind)).still(steps[kind], "trace")
                    .due("mark " + kind + " 0", x(kind)).still(2 * steps[kind], "trace");
        }
        edge("26: refused marks do not come to it").read("z1;").due("mark 3 0", 2).still(Edge.NO, "mark 6 0")
                .still(Edge.NO, "mark 3 1").still(Edge.NO, "mark -1 0").still(1011, "trace");
    }

    /** What a sound worthy 1, known by nobody and not in talk, is at hour 0. */
    private static int x(int kind) {
        return kind == 3 ? 2 : 1;
    }

    private static void traceGoesOn() {
        edge("26: images and undoing do not change it").read("z1;").due("hears 0", 0).due("keep 0", 0)
                .due("mark 1 0", 1).due("back 0", 0).still(11, "trace").due("undo", 0).still(11, "trace")
                .read("z1;").still(11, "trace").due("mark 0 0", 1).still(12, "trace");
    }

    private static void imagesAre0And1() {
        edge("23: images are 0, 1").outside("keep %", 0, 1, Edge.BAD).due("keep 0", 0).due("keep 1", 0)
                .outside("keep %", 0, 1, Edge.BAD);
        edge("24: images are 0, 1").due("keep 0", 0).due("keep 1", 0).outside("back %", 0, 1, Edge.BAD);
    }

    private static void keepAnswersTheHour() {
        edge("23: the hour").due("keep 0", 0).due("hour", 1).due("keep 0", 1).times(98, "hour").due("keep 1", 99)
                .due("back 0", 1).due("back 1", 99).still(Edge.STATE, "hour");
    }

    private static void keepOver() {
        edge("23: kept over an older one").read("z1;").due("hears 0", 0).due("keep 0", 0).due("hears 0", 1)
                .due("keep 1", 0).due("hour", 1).due("keep 0", 1).due("undo", 2).due("undo", 1).due("back 0", 1)
                .still(2, "now 1").due("back 1", 0).still(2, "now 1").still(2, "count 4");
        edge("23: the same kept again").read("z1;").due("hears 0", 0).due("keep 0", 0).still(0, "keep 0");
    }

    private static void keepNothingElse() {
        edge("23: nothing else").read("z1;z2;").due("tells 0 1", 1).due("type 122", 1).due("mark 0 0", 1)
                .due("keep 0", 0).due("forget", 1).due("clear", 1).due("mark 0 1", 2).due("hears 1", 0)
                .due("back 0", 0).still(0, "count 3").still(0, "count 5").still(2, "trace").still(0, "now 1");
        edge("23: nor the other image").read("z1;").due("keep 1", 0).due("keep 0", 0).due("hears 0", 0)
                .due("keep 1", 0).due("back 0", 0).still(0, "now 1").due("back 1", 0).still(1, "now 1");
    }

    private static void backNoneKept() {
        edge("24: none was kept").still(Edge.STATE, "back 0").still(Edge.STATE, "back 1").read("z1;").due("hears 0", 0)
                .still(Edge.STATE, "back 0").due("keep 0", 0).still(Edge.STATE, "back 1").still(0, "back 0");
        edge("24: the other one").read("z1;").due("keep 1", 0).still(Edge.STATE, "back 0").still(0, "back 1");
    }

    private static void backBadAheadOfState() {
        edge("24: BAD ahead of STATE").outside("back %", 0, 1, Edge.BAD).still(Edge.STATE, "back 0");
    }

    private static void backIsAsKept() {
        edge("24: all of that becomes as it was").read("z1;a2 0;p1;").due("hears 0", 0).due("hour", 1)
                .due("says 0 1", 0).due("keep 0", 1).still(1, "back 0").still(1, "hour", "hears 0", "back 0")
                .still(1, "undo", "undo", "undo", "back 0").still(1, "undo", "hears 0", "hears 0", "back 0")
                .still(1, "undo", "undo", "hears 0", "hears 0", "back 0").still(1, "talk 1 1")
                .still(1, "says 0 1", "back 0", "back 0").still(1, "hour", "keep 0", "undo", "keep 0", "back 0");
        edge("24: of an empty talk").read("z1;").due("keep 1", 0).still(0, "hears 0", "hour", "back 1");
    }

    private static void backOfTheFull() {
        edge("24: of a full talk").read("z1;a2 0 1;p1;").due("hears 0", 0).times(29, "says 0 1").due("hour", 1)
                .due("keep 0", 1).times(12, "undo").still(19, "now 1").due("hears 0", 19).due("back 0", 1)
                .still(30, "now 1").still(Edge.FULL, "hears 0").still(29, "talk 29 5").still(12, "count 4");
        edge("24: full, and then not").read("z1;").due("keep 0", 0).times(30, "hears 0").still(Edge.FULL, "hears 0")
                .due("back 0", 0).due("hears 0", 0);
    }

    private static void backWhatMayBeUndone() {
        edge("24: what may be undone").read("z1;").due("keep 0", 0).times(13, "hears 0").due("keep 1", 0)
                .due("back 0", 0).still(0, "count 4").still(Edge.STATE, "undo").due("back 1", 0)
                .still(12, "count 4").times(12, "undo").still(Edge.STATE, "undo").still(1, "now 1");
        edge("24: hours and sounds by turns").read("z1;").due("hears 0", 0).due("hour", 1).due("hears 0", 1)
                .due("keep 0", 1).times(12, "hour").due("back 0", 1).due("undo", 2).still(1, "now 1").due("undo", 1)
                .still(0, "now 0").due("undo", 0).still(0, "now 1").still(Edge.STATE, "undo");
    }

    private static void imagesAreGone() {
        edge("24: read anew, images are gone").read("z1;").due("hears 0", 0).due("keep 0", 0).due("keep 1", 0)
                .read("z1;").still(Edge.STATE, "back 0").still(Edge.STATE, "back 1").due("keep 1", 0)
                .still(Edge.STATE, "back 0").still(0, "back 1");
        edge("24: a fault leaves them").read("z1;").due("hears 0", 0).due("keep 0", 0).due("undo", 0).typed("z")
                .still(-11, "duchy").due("back 0", 0).still(1, "now 1");
    }

    private static void countWhats() {
        edge("25: what is 0 .. 5").outside("count %", 0, 5, Edge.BAD);
        edge("25: what is 0 .. 5").read("z1;a2 0;p1;").outside("count %", 0, 5, Edge.BAD);
    }

    private static void countsOfLeastAndMost() {
        Edge edge = edge("25: of most").read("z1;z1;z1;z1;z1;z1;z1;z1;p;p;p;p;p;o9;").times(6, "tells 0 1")
                .times(13, "hears 0").times(171, "type 32");
        int[] counts = {8, 5, 9, 6, 12, 171};
        for (int what = 0; what < counts.length; what++) {
            edge.still(counts[what], "count " + what);
        }
        edge("25: of the fullest text").times(199, "type 32").still(199, "count 5").due("type 32", 200)
                .still(200, "count 5").due("clear", 200).still(0, "count 5");
    }
}
