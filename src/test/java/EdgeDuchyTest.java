/** The edges of promises 1 (a new object), 5 saying, 6 person, 7 talk, and of the object's 512 calls. */
public final class EdgeDuchyTest {
    private static final String EIGHT = "z1;a2 0;a3 1;a4 2;a5 3;a6 4;a7 5;z8;p0 1;p2;p3;p4;p5 6 7;";
    private static final Check CHECK = new Check();

    public static void main(String[] args) {
        newObjectHasNothing();
        newObjectRefuses();
        lastOf512Calls();
        sayingsThereAre();
        whatOfASaying();
        soundAnswersNothing();
        answersItself();
        oftenInTalk();
        peopleThereAre();
        whatOfAPerson();
        mayNothing();
        mayAsLongAsThere();
        mayWhatHeKnows();
        mayWhenTalkIsFull();
        oftenSaid();
        placesInTalk();
        whatOfAPlace();
        hoursOfTalk();
        rootsAndFar();
        openOrNot();
        thereOrNot();
        CHECK.end();
    }

    private static Edge edge(String title) {
        return new Edge(CHECK, title);
    }

    private static void newObjectHasNothing() {
        Edge edge = edge("1: no sayings, nobody");
        int[] counts = {0, 0, 3, 0, 0, 0};
        for (int what = 0; what < counts.length; what++) {
            edge.still(counts[what], "count " + what);
        }
        int[] nows = {0, 0, 0, 0, Edge.NONE, Edge.NONE, 0, 0};
        for (int what = 0; what < nows.length; what++) {
            edge.still(nows[what], "now " + what);
        }
        edge.still(0, "trace").still(0, "clear").still(0, "forget").still(1, "fits").still(0, "sounds 0")
                .still(0, "began 0").still(1, "orders 0").still(0, "duchy");
    }

    private static void newObjectRefuses() {
        edge("1: no such thing").still(Edge.BAD, "saying 0 0").still(Edge.BAD, "person 0 0")
                .still(Edge.BAD, "talk 0 0").still(Edge.BAD, "hears 0").still(Edge.BAD, "says 0 0")
                .still(Edge.STATE, "undo").still(Edge.BAD, "worth 0").still(Edge.BAD, "chain 0 -1")
                .still(Edge.BAD, "sounds 1").still(Edge.BAD, "began 1").still(Edge.BAD, "odds 0 5 0")
                .still(Edge.BAD, "tells 0 1").still(Edge.BAD, "orders 1").still(Edge.NO, "mark 0 0")
                .still(Edge.STATE, "back 0").still(Edge.STATE, "back 1");
    }

    private static void lastOf512Calls() {
        Edge edge = edge("512 calls").read("z1;").due("hour", 1);
        edge.times(505, "mark 5 0").due("trace", 505L * 100001L);
    }

    private static void sayingsThereAre() {
        edge("5: no such saying").read("p;").outside("saying % 0", 0, -1, Edge.BAD);
        edge("5: the one there is").read("z7;").still(7, "saying 0 1").outside("saying % 1", 0, 0, Edge.BAD);
        Edge edge = edge("5: the first and the last").read(EIGHT).still(1, "saying 0 1").still(8, "saying 7 1");
        for (int what = 0; what < 5; what++) {
            edge.outside("saying % " + what, 0, 7, Edge.BAD);
        }
    }

    private static void whatOfASaying() {
        edge("5: what is 0 .. 4").read(EIGHT).still(1, "saying 0 0").still(1, "saying 0 3").still(0, "saying 0 4")
                .outside("saying 0 %", 0, 4, Edge.BAD).outside("saying 7 %", 0, 4, Edge.BAD)
                .outside("saying 8 %", 0, -1, Edge.BAD).outside("saying -1 %", 0, -1, Edge.BAD);
    }

    private static void soundAnswersNothing() {
        edge("terms: a sound answers nothing").read("z1;a2;a2 7;p0 1 2;").still(1, "saying 0 0")
                .still(0, "saying 0 2").still(0, "saying 1 0").still(0, "saying 1 2").still(0, "saying 2 0")
                .still(0, "saying 2 2");
    }

    private static void answersItself() {
        edge("terms: itself too, perhaps").read("z1;a2 1;a3 2 0;p1 2;").still(2, "saying 1 2").due("hears 0", 0)
                .still(Edge.STATE, "says 0 1").due("says 0 2", 0).due("says 0 2", 1).due("talk 2 5", 2);
    }

    private static void oftenInTalk() {
        edge("5: how often in talk").read("z1;a2 0;p1;").still(0, "saying 0 4").times(29, "hears 0")
                .still(29, "saying 0 4").still(0, "saying 1 4").due("says 0 1", 28).still(1, "saying 1 4")
                .times(9, "hour").still(29, "saying 0 4").times(10, "undo").still(0, "saying 1 4");
        edge("5: 30 times").read("z1;").times(30, "hears 0").still(30, "saying 0 4");
    }

    private static void peopleThereAre() {
        edge("6: nobody").read("z1;").outside("person % 0", 0, -1, Edge.BAD);
        edge("6: one").read("z1;p0;").still(1, "person 0 0").outside("person % 0", 0, 0, Edge.BAD);
        Edge edge = edge("6: the first and the last").read(EIGHT).still(3, "person 0 0").still(224, "person 4 0");
        for (int what = 0; what < 3; what++) {
            edge.outside("person % " + what, 0, 4, Edge.BAD);
        }
    }

    private static void whatOfAPerson() {
        edge("6: what is 0 .. 2").read(EIGHT).still(0, "person 4 1").still(0, "person 4 2")
                .outside("person 0 %", 0, 2, Edge.BAD).outside("person 4 %", 0, 2, Edge.BAD)
                .outside("person 5 %", 0, -1, Edge.BAD);
    }

    private static void mayNothing() {
        edge("6: may nothing").read("z1;a2 0 1;p0 1;p;").still(0, "person 0 1").due("hears 0", 0)
                .still(2, "person 0 1").still(0, "person 1 1");
        edge("6: nobody may say a sound").read("z1;z2;p0 1;").due("hears 0", 0).still(0, "person 0 1");
        edge("6: what answers nothing").read("z1;a2;a2 7;p0 1 2;").due("hears 0", 0).still(0, "person 0 1");
    }

    private static void mayAsLongAsThere() {
        for (int old = 1; old <= 9; old++) {
            edge("6: may, old " + old).read("z1;a2 0;p1;o" + old + ";").due("hears 0", 0).times(old, "hour")
                    .still(2, "person 0 1").due("hour", old + 1).still(0, "person 0 1").due("undo", old + 1)
                    .still(2, "person 0 1");
        }
    }

    private static void mayWhatHeKnows() {
        edge("6: may what he knows").read("a1 7;a1 7;a1 7;a1 7;a1 7;a1 7;a1 0;z1;p0 6;p1 2 3 4 5;p0 1 2 3 4 5 6 7;")
                .due("hears 7", 0).still(1, "person 0 1").still(62, "person 1 1").still(63, "person 2 1")
                .due("says 0 0", 0).still(65, "person 0 1").still(62, "person 1 1").still(127, "person 2 1");
    }

    private static void mayWhenTalkIsFull() {
        edge("6: may does not ask whether talk is full").read("z1;a2 0;p1;").times(30, "hears 0")
                .still(2, "person 0 1").still(Edge.FULL, "says 0 1");
    }

    private static void oftenSaid() {
        edge("6: how often he said something").read("z1;a2 0 1;p1;p1;").still(0, "person 0 2").due("hears 0", 0)
                .still(0, "person 0 2").times(29, "says 1 1").still(29, "person 1 2").still(0, "person 0 2")
                .due("undo", 11).still(28, "person 1 2").due("says 0 1", 28).still(1, "person 0 2");
    }

    private static void placesInTalk() {
        edge("7: an empty talk").read("z1;").outside("talk % 0", 0, -1, Edge.BAD);
        edge("7: one").read("z1;").due("hears 0", 0).still(0, "talk 0 0").outside("talk % 0", 0, 0, Edge.BAD)
                .due("undo", 0).still(Edge.BAD, "talk 0 0");
        Edge edge = edge("7: the first and the last of 30").read("z1;a2 0 1;p1;").times(1, "hears 0")
                .times(29, "says 0 1").still(0, "talk 0 0").still(1, "talk 29 0");
        for (int what = 0; what < 8; what++) {
            edge.outside("talk % " + what, 0, 29, Edge.BAD);
        }
    }

    private static void whatOfAPlace() {
        edge("7: what is 0 .. 7").read("z1;").due("hears 0", 0).still(0, "talk 0 0").still(1, "talk 0 7")
                .outside("talk 0 %", 0, 7, Edge.BAD).outside("talk 1 %", 0, -1, Edge.BAD)
                .outside("talk -1 %", 0, -1, Edge.BAD);
    }

    private static void hoursOfTalk() {
        edge("7: hour 0 and hour 99").read("z1;a2 0;p1;").due("hears 0", 0).times(99, "hour").due("hears 0", 1)
                .due("says 0 1", 1).still(0, "talk 0 1").still(99, "talk 1 1").still(99, "talk 2 1");
    }

    private static void rootsAndFar() {
        Edge edge = edge("7: root and far").read("z1;z1;a2 0 2;a3 1;p2;p3;").due("hears 0", 0).due("hears 1", 1)
                .due("says 0 2", 0).due("says 1 3", 1).due("hears 0", 4).due("says 0 2", 4);
        int[][] due = {{Edge.NONE, Edge.NONE, 0, 0}, {Edge.NONE, Edge.NONE, 1, 0}, {0, 0, 0, 1}, {1, 1, 1, 1},
            {Edge.NONE, Edge.NONE, 4, 0}, {0, 4, 4, 1}};
        for (int i = 0; i < due.length; i++) {
            for (int what = 0; what < 4; what++) {
                edge.still(due[i][what], "talk " + i + " " + (what + 2));
            }
        }
        edge("7: as far as can be").read("z1;a2 0 1;p1;").due("hears 0", 0).times(29, "says 0 1")
                .still(0, "talk 29 4").still(29, "talk 29 5").still(28, "talk 29 3").still(29, "now 4");
        edge("7: a root that is old").read("z1;a2 0 1;p1;o1;").due("hears 0", 0).due("hour", 1).due("says 0 1", 0)
                .due("hour", 2).due("says 0 1", 1).still(0, "talk 0 7").still(0, "talk 2 4").still(2, "talk 2 5");
    }

    private static void openOrNot() {
        edge("7: open").read("z1;a2 0;p1;").due("hears 0", 0).still(1, "talk 0 6").due("hears 0", 1)
                .due("says 0 1", 1).still(1, "talk 0 6").still(0, "talk 1 6").still(1, "talk 2 6").due("undo", 2)
                .still(1, "talk 1 6");
    }

    private static void thereOrNot() {
        for (int old = 1; old <= 9; old++) {
            edge("7: there, old " + old).read("z1;o" + old + ";").due("hour", 1).due("hears 0", 0)
                    .times(old, "hour").still(1, "talk 0 7").still(1, "now 2").due("hour", old + 2)
                    .still(0, "talk 0 7").still(0, "now 2").due("undo", old + 2).still(1, "talk 0 7");
        }
        edge("7: there at hour 99").read("z1;o9;").times(90, "hour").due("hears 0", 0).times(9, "hour")
                .still(1, "talk 0 7").still(99, "now 0");
        edge("7: not there at hour 99").read("z1;o9;").times(89, "hour").due("hears 0", 0).times(10, "hour")
                .still(0, "talk 0 7");
    }
}
