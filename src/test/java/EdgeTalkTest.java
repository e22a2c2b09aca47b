/** The edges of promises 8 hears, 9 says, 10 hour, 11 undo, 12 now, 13 worth. */
public final class EdgeTalkTest {
    private static final Check CHECK = new Check();

    public static void main(String[] args) {
        hearsSoundsAlone();
        hearsThirty();
        hearsBadAheadOfFull();
        saysWhoAndWhat();
        saysNoSound();
        saysWhatHeKnows();
        saysWhatAnswersWhatIsThere();
        saysTheLatestThere();
        saysThirty();
        saysBadAheadOfState();
        saysStateAheadOfFull();
        hoursUpTo99();
        atTheLastHour();
        undoNone();
        undoTwelve();
        undoIsAsAhead();
        undoWhatWasFull();
        undoNothingElse();
        nowWhats();
        nowOfNothing();
        thereBits();
        openOnes();
        farthest();
        stone();
        ends();
        silent();
        silentAtTheLimits();
        worthOfRoots();
        worthOfAll();
        CHECK.end();
    }

    private static Edge edge(String title) {
        return new Edge(CHECK, title);
    }

    private static void hearsSoundsAlone() {
        edge("8: no such saying").read("z1;").outside("hears %", 0, 0, Edge.BAD).due("hears 0", 0);
        edge("8: eight of them").read("z1;z1;z1;z1;z1;z1;z1;z1;").outside("hears %", 0, 7, Edge.BAD)
                .due("hears 7", 0).due("hears 0", 1);
        edge("8: no sound").read("z1;a2 0;a2;a2 7;p1;").still(Edge.BAD, "hears 1").still(Edge.BAD, "hears 2")
                .still(Edge.BAD, "hears 3");
        edge("8: nobody needs to know it").read("z1;").due("hears 0", 0).still(0, "saying 0 3");
    }

    private static void hearsThirty() {
        Edge edge = edge("8: 30 at most").read("z1;z2;");
        for (int k = 0; k < 30; k++) {
            edge.due("hears " + k % 2, k);
        }
        edge.still(Edge.FULL, "hears 0").still(Edge.FULL, "hears 1").due("hour", 1).still(Edge.FULL, "hears 0")
                .times(9, "hour").still(Edge.FULL, "hears 0").still(30, "now 1");
    }

    private static void hearsBadAheadOfFull() {
        edge("8: BAD ahead of FULL").read("z1;a2 0;p1;").times(30, "hears 0").outside("hears %", 0, 0, Edge.BAD);
    }

    private static void saysWhoAndWhat() {
        edge("9: nobody").read("z1;a2 0;").due("hears 0", 0).outside("says % 1", 0, -1, Edge.BAD);
        edge("9: no such person or saying").read("z1;a2 0 1;p1;p1;p1;p1;p1;").due("hears 0", 0)
                .outside("says % 1", 0, 4, Edge.BAD).outside("says 0 %", 1, 1, Edge.BAD)
                .outside("says 4 %", 1, 1, Edge.BAD).due("says 4 1", 0).due("says 0 1", 1);
        edge("9: the eighth saying").read("z1;a1;a1;a1;a1;a1;a1;a1 0;p7;").due("hears 0", 0)
                .outside("says 0 %", 1, 7, Edge.BAD).due("says 0 7", 0);
    }

    private static void saysNoSound() {
        edge("9: a sound, too").read("z1;a2 0;p0 1;").still(Edge.BAD, "says 0 0").due("hears 0", 0)
                .still(Edge.BAD, "says 0 0");
    }

    private static void saysWhatHeKnows() {
        edge("9: he does not know it").read("z1;a2 0;p;p1;").due("hears 0", 0).still(Edge.STATE, "says 0 1")
                .due("says 1 1", 0);
    }

    private static void saysWhatAnswersWhatIsThere() {
        edge("9: nothing is there").read("z1;a2 0;p1;").still(Edge.STATE, "says 0 1");
        edge("9: nothing that it answers").read("z1;z1;a2 1;a2 3;a2;p2 3 4;").due("hears 0", 0)
                .still(Edge.STATE, "says 0 2").still(Edge.STATE, "says 0 3").still(Edge.STATE, "says 0 4");
        for (int old = 1; old <= 9; old++) {
            edge("9: not more than old hours ago, " + old).read("z1;a2 0;p1;o" + old + ";").due("hears 0", 0)
                    .times(old, "hour").due("says 0 1", 0).due("hour", old + 1).still(Edge.STATE, "says 0 1");
        }
        edge("9: 3 hours at first").read("z1;a2 0;p1;").due("hears 0", 0).times(3, "hour").due("says 0 1", 0)
                .due("hour", 4).still(Edge.STATE, "says 0 1");
    }

    private static void saysTheLatestThere() {
        edge("9: the latest such").read("z1;z1;z1;a2 0 1;p3;o2;").due("hears 0", 0).due("hears 1", 1)
                .due("hears 0", 2).due("hears 2", 3).due("says 0 3", 2).due("says 0 3", 2).due("talk 5 3", 2);
        edge("9: the latest, at another hour").read("z1;z1;a2 0 1;p2;o2;").due("hears 1", 0).due("hour", 1)
                .due("hears 0", 1).times(2, "hour").due("says 0 2", 1).due("hour", 4).still(Edge.STATE, "says 0 2");
    }

    private static void saysThirty() {
        edge("9: 30 at most").read("z1;a2 0;p1;").times(29, "hears 0").due("says 0 1", 28)
                .still(Edge.FULL, "says 0 1").due("undo", 11).due("says 0 1", 28).still(Edge.FULL, "hears 0");
    }

    private static void saysBadAheadOfState() {
        edge("9: BAD ahead of STATE").read("z1;a2 0;p0;").still(Edge.BAD, "says 1 1").still(Edge.BAD, "says 0 0")
                .still(Edge.BAD, "says -1 1").still(Edge.BAD, "says 0 2").still(Edge.STATE, "says 0 1");
        edge("9: BAD ahead of FULL").read("z1;a2 0;p0 1;").times(30, "hears 0").still(Edge.BAD, "says 1 1")
                .still(Edge.BAD, "says 0 0").still(Edge.BAD, "says 0 2").still(Edge.FULL, "says 0 1");
    }

    private static void saysStateAheadOfFull() {
        edge("9: he does not know it, ahead of FULL").read("z1;a2 0;p;").times(30, "hears 0")
                .still(Edge.STATE, "says 0 1");
        edge("9: nothing is there, ahead of FULL").read("z1;a2 0;a2 1;p1 2;").times(30, "hears 0")
                .still(Edge.STATE, "says 0 2").times(3, "hour").still(Edge.FULL, "says 0 1").due("hour", 4)
                .still(Edge.STATE, "says 0 1");
    }

    private static void hoursUpTo99() {
        Edge edge = edge("10: 99 at most").still(0, "now 0");
        for (int k = 1; k <= 99; k++) {
            edge.due("hour", k);
        }
        edge.still(Edge.STATE, "hour").still(99, "now 0").still(12, "count 4");
    }

    private static void atTheLastHour() {
        edge("10: hour 99").read("z1;a2 0;p1;").times(99, "hour").due("hears 0", 0).due("says 0 1", 0)
                .still(Edge.STATE, "hour").due("keep 0", 99).due("undo", 11).due("undo", 10).due("undo", 9)
                .still(98, "now 0").due("hour", 99).still(Edge.STATE, "hour");
    }

    private static void undoNone() {
        edge("11: none").still(Edge.STATE, "undo").read("z1;").still(Edge.STATE, "undo").due("hears 0", 0)
                .due("undo", 0).still(Edge.STATE, "undo").due("hour", 1).due("undo", 0).still(Edge.STATE, "undo");
        edge("11: refused ones are none").read("z1;a2 0;p1;").still(Edge.STATE, "says 0 1", "undo")
                .still(Edge.STATE, "hears 1", "undo");
    }

    private static void undoTwelve() {
        edge("11: 12 are known").read("z1;").times(12, "hears 0").still(12, "count 4").due("undo", 11)
                .times(11, "undo").still(Edge.STATE, "undo").still(0, "now 1");
        edge("11: older ones are lost").read("z1;").times(13, "hears 0").still(12, "count 4").due("undo", 11)
                .times(11, "undo").still(Edge.STATE, "undo").still(1, "now 1");
        edge("11: older hours are lost").times(99, "hour").still(12, "count 4").times(12, "undo")
                .still(Edge.STATE, "undo").still(87, "now 0").still(0, "count 4");
        Edge mixed = edge("11: of each kind").read("z1;a2 0;p1;o9;").due("hears 0", 0).times(3, "hour")
                .due("says 0 1", 0).times(2, "hour").due("hears 0", 2).times(4, "hour").due("says 0 1", 2)
                .due("hour", 10).still(12, "count 4");
        int[][] after = {{9, 4}, {9, 3}, {8, 3}, {7, 3}, {6, 3}, {5, 3}, {5, 2}, {4, 2}, {3, 2}, {3, 1}, {2, 1}, {1, 1}};
        for (int k = 0; k < after.length; k++) {
            mixed.due("undo", 11 - k).still(after[k][0], "now 0").still(after[k][1], "now 1");
        }
        mixed.still(Edge.STATE, "undo");
    }

    private static void undoIsAsAhead() {
        edge("11: all is as ahead of it").read("z1;a2 0;p1;").due("hears 0", 0).due("keep 0", 0).due("hour", 1)
                .still(2, "hears 0", "undo").still(2, "says 0 1", "undo").still(2, "hour", "undo")
                .still(2, "hears 0", "says 0 1", "hour", "undo", "undo", "undo")
                .still(2, "hour", "hour", "hour", "hour", "hears 0", "says 0 1", "undo", "undo", "undo", "undo",
                        "undo", "undo");
    }

    private static void undoWhatWasFull() {
        edge("11: what was full").read("z1;a2 0;p1;").times(30, "hears 0").still(Edge.FULL, "hears 0").due("undo", 11)
                .still(29, "now 1").due("hears 0", 29).still(12, "count 4").still(Edge.FULL, "hears 0");
    }

    private static void undoNothingElse() {
        edge("11: nothing else is undone").read("z1;a2 0;p1;").due("hears 0", 0).due("tells 0 1", 1)
                .due("keep 0", 0).due("mark 0 0", 1).due("type 122", 1).still(1, "count 4").due("undo", 0)
                .still(1, "count 3").still(1, "trace").still(1, "count 5").due("forget", 1)
                .still(Edge.STATE, "undo").due("clear", 1).still(Edge.STATE, "undo").due("back 0", 0)
                .still(1, "now 1").still(1, "count 4");
    }

    private static void nowWhats() {
        edge("12: what is 0 .. 7").outside("now %", 0, 7, Edge.BAD);
        edge("12: what is 0 .. 7").read("z1;a2 0;p1;").due("hears 0", 0).due("hour", 1).still(1, "now 0")
                .still(3, "now 7").outside("now %", 0, 7, Edge.BAD);
    }

    private static void nowOfNothing() {
        int[] nows = {0, 0, 0, 0, Edge.NONE, Edge.NONE, 0, 0};
        Edge edge = edge("12: an empty talk").read("z1;a2 0;p1;");
        for (int what = 0; what < nows.length; what++) {
            edge.still(nows[what], "now " + what);
        }
        edge.due("hears 0", 0).due("undo", 0);
        for (int what = 0; what < nows.length; what++) {
            edge.still(nows[what], "now " + what);
        }
    }

    private static void thereBits() {
        edge("12: the sayings that are there").read("z1;a1 0;a1 1;a1 2;a1 3;a1 4;a1 5;z1;p1 2 3 4 5 6;o1;")
                .due("hears 7", 0).still(128, "now 2").due("hears 0", 1).due("says 0 1", 1).due("hour", 1)
                .due("says 0 2", 2).still(135, "now 2").due("hour", 2).still(4, "now 2").due("hour", 3)
                .still(0, "now 2").due("undo", 6).still(4, "now 2");
        edge("12: there by one of two").read("z1;o1;").due("hears 0", 0).due("hour", 1).due("hears 0", 1)
                .due("hour", 2).still(1, "now 2").due("hour", 3).still(0, "now 2");
    }

    private static void openOnes() {
        edge("12: how many are open").read("z1;a2 0 1;p1;").due("hears 0", 0).still(1, "now 3").due("says 0 1", 0)
                .still(1, "now 3").due("hears 0", 2).still(2, "now 3").due("says 0 1", 2).still(2, "now 3")
                .times(9, "hour").still(2, "now 3");
        edge("12: two answers to one").read("z1;a2 0;p1;").due("hears 0", 0).due("says 0 1", 0).due("says 0 1", 0)
                .still(2, "now 3");
        edge("12: 30 are open").read("z1;").times(30, "hears 0").still(30, "now 3");
        edge("12: 1 of 30 is open").read("z1;a2 0 1;p1;").due("hears 0", 0).times(29, "says 0 1").still(1, "now 3");
    }

    private static void farthest() {
        edge("12: farthest, of several the first").read("z1;a2 0;a2 1;p1 2;").due("hears 0", 0).still(0, "now 4")
                .due("hears 0", 1).still(0, "now 4").due("says 0 1", 1).still(2, "now 4").due("says 0 1", 1)
                .still(2, "now 4").due("says 0 2", 3).still(4, "now 4").due("says 0 2", 3).still(4, "now 4")
                .times(9, "hour").still(4, "now 4").times(10, "undo").still(4, "now 4").due("undo", 1)
                .still(2, "now 4");
        edge("12: farthest is the 30th").read("z1;a2 0;p1;").times(29, "hears 0").due("says 0 1", 28)
                .still(29, "now 4");
    }

    private static void stone() {
        edge("12: the last one that is open").read("z1;a2 0;p1;").due("hears 0", 0).still(0, "now 5")
                .due("says 0 1", 0).still(1, "now 5").due("hears 0", 2).still(2, "now 5").times(9, "hour")
                .still(2, "now 5");
        edge("12: the 30th").read("z1;").times(30, "hears 0").still(29, "now 5");
    }

    private static void ends() {
        edge("12: none is answered").read("z1;a2 0;p1;").due("hears 0", 0).still(0, "now 6");
        edge("12: who said first what answers a sound").read("z1;a2 0;a2 1;p2;p1;p1;p1;p1;").due("hears 0", 0)
                .due("says 4 1", 0).still(16, "now 6").due("says 1 1", 0).still(16, "now 6").due("says 0 2", 2)
                .still(16, "now 6").due("hears 0", 4).still(16, "now 6").due("says 2 1", 4).still(20, "now 6")
                .due("says 3 1", 4).still(20, "now 6").times(9, "hour").still(20, "now 6");
        edge("12: all five").read("z1;a2 0;p1;p1;p1;p1;p1;").due("hears 0", 0).due("says 0 1", 0).due("hears 0", 2)
                .due("says 1 1", 2).due("hears 0", 4).due("says 2 1", 4).due("hears 0", 6).due("says 3 1", 6)
                .due("hears 0", 8).due("says 4 1", 8).still(31, "now 6").due("undo", 9).still(15, "now 6");
        edge("12: one for two sounds").read("z1;z1;a2 0;a2 1;p2 3;").due("hears 0", 0).due("hears 1", 1)
                .due("says 0 2", 0).still(1, "now 6").due("says 0 3", 1).still(1, "now 6");
    }

    private static void silent() {
        edge("12: nobody may say anything").read("z1;a2 0;p1;").still(0, "now 7");
        edge("12: nobody knows it").read("z1;a2 0;p0;").due("hears 0", 0).still(0, "now 7");
        edge("12: nobody at all").read("z1;a2 0;").due("hears 0", 0).still(0, "now 7");
        for (int old = 1; old <= 8; old++) {
            edge("12: in so many hours, old " + old).read("z1;a2 0;p1;o" + old + ";").due("hears 0", 0)
                    .still(old + 1, "now 7").times(old, "hour").still(1, "now 7").due("hour", old + 1)
                    .still(0, "now 7");
        }
        edge("12: never within 9 hours").read("z1;a2 0;p1;o9;").due("hears 0", 0).still(Edge.NONE, "now 7")
                .due("hour", 1).still(9, "now 7").due("hears 0", 1).still(Edge.NONE, "now 7").due("undo", 2)
                .still(9, "now 7");
        edge("12: what is said goes by itself").read("z1;a2 0;a2 1;p1;p2;o4;").due("hears 0", 0).due("hour", 1)
                .still(4, "now 7").due("says 0 1", 0).still(5, "now 7").times(4, "hour").still(1, "now 7")
                .still(0, "person 0 1").still(4, "person 1 1").due("hour", 6).still(0, "now 7");
    }

    private static void silentAtTheLimits() {
        edge("12: silent does not ask for hour 99").read("z1;a2 0;p1;o5;").times(99, "hour").due("hears 0", 0)
                .still(6, "now 7");
        edge("12: silent does not ask whether talk is full").read("z1;a2 0;p1;o5;").times(30, "hears 0")
                .still(6, "now 7");
    }

    private static void worthOfRoots() {
        edge("13: an empty talk").read("z1;").outside("worth %", 0, -1, Edge.BAD);
        edge("13: it is no root").read("z1;a2 0;p1;").due("hears 0", 0).due("says 0 1", 0).still(3, "worth 0")
                .still(Edge.BAD, "worth 1").outside("worth %", 0, 0, Edge.BAD).due("hears 0", 2).still(1, "worth 2")
                .still(Edge.BAD, "worth 3").due("undo", 2).still(Edge.BAD, "worth 2");
        edge("13: the 30th").read("z4;").times(30, "hears 0").still(4, "worth 0").still(4, "worth 29")
                .outside("worth %", 0, 29, Edge.BAD);
    }

    private static void worthOfAll() {
        edge("13: worthy 0").read("z0;").due("hears 0", 0).still(0, "worth 0");
        edge("13: itself too, and all that go back to it").read("z9;a9 0 1;p1;o9;").due("hears 0", 0)
                .times(29, "says 0 1").still(270, "worth 0").times(10, "hour").still(270, "worth 0");
        edge("13: each by its own root").read("z1;z2;a3 0;a5 1;a7 2 3;p2 3 4;").due("hears 0", 0).due("hears 1", 1)
                .due("says 0 2", 0).due("says 0 3", 1).due("says 0 4", 3).still(4, "worth 0").still(14, "worth 1");
    }
}
