/** The edges of promises 18 tells, 19 forget, 20 fits, 21 orders. */
public final class EdgeToldTest {
    private static final Check CHECK = new Check();

    public static void main(String[] args) {
        tellsOfWhichSayings();
        tellsAlikeOnes();
        tellsSix();
        tellsBadAheadOfFull();
        forgetNothing();
        forgetAll();
        fitsNothing();
        fitsBothMustBe();
        fitsTheFirstTime();
        fitsEach();
        ordersWhichSets();
        ordersOfNothing();
        ordersOfSounds();
        ordersBehindWhatIsAnswered();
        ordersByThoseWhoKnow();
        ordersTold();
        ordersToldOfOthers();
        ordersDoNotLookAtTalk();
        CHECK.end();
    }

    private static Edge edge(String title) {
        return new Edge(CHECK, title);
    }

    private static void tellsOfWhichSayings() {
        edge("18: no such saying").read("z1;a2 0;p1;").outside("tells % 0", 0, 1, Edge.BAD)
                .outside("tells % 1", 0, 1, Edge.BAD).outside("tells 0 %", 0, 1, Edge.BAD)
                .outside("tells 1 %", 0, 1, Edge.BAD).due("tells 0 1", 1).due("tells 1 0", 2);
        edge("18: the first and the last of eight").read("z1;z1;z1;z1;z1;z1;z1;z1;")
                .outside("tells % 0", 0, 7, Edge.BAD).outside("tells 7 %", 0, 7, Edge.BAD).due("tells 0 7", 1)
                .due("tells 7 0", 2);
        edge("18: one alone").read("z1;").still(Edge.BAD, "tells 0 0").still(Edge.BAD, "tells 0 1");
    }

    private static void tellsAlikeOnes() {
        edge("18: alike ones, too").read("z1;a2 0;p1;").still(Edge.BAD, "tells 0 0").still(Edge.BAD, "tells 1 1")
                .still(Edge.BAD, "tells 2 2").still(Edge.BAD, "tells -1 -1");
    }

    private static void tellsSix() {
        Edge edge = edge("18: 6 at most").read("z1;z1;z1;z1;z1;z1;z1;z1;");
        for (int k = 1; k <= 6; k++) {
            edge.due("tells " + k + " 0", k);
        }
        edge.still(Edge.FULL, "tells 7 0").still(Edge.FULL, "tells 1 0").still(6, "count 3").due("forget", 6)
                .due("tells 7 0", 1);
        Edge again = edge("18: the same told again is one more").read("z1;a2 0;p1;");
        for (int k = 1; k <= 6; k++) {
            again.due("tells 0 1", k);
        }
        again.still(Edge.FULL, "tells 0 1").still(Edge.FULL, "tells 1 0").still(1, "orders 3");
    }

    private static void tellsBadAheadOfFull() {
        edge("18: BAD ahead of FULL").read("z1;a2 0;p1;").times(6, "tells 0 1").still(Edge.BAD, "tells 0 0")
                .outside("tells % 0", 0, 1, Edge.BAD).outside("tells 0 %", 0, 1, Edge.BAD)
                .still(Edge.FULL, "tells 1 0");
    }

    private static void forgetNothing() {
        edge("19: nothing was told").still(0, "forget").read("z1;a2 0;p1;").still(0, "forget").due("tells 0 1", 1)
                .due("forget", 1).still(0, "forget");
    }

    private static void forgetAll() {
        edge("19: all that was told").read("z1;z1;").times(6, "tells 0 1").still(1, "orders 3").due("forget", 6)
                .still(0, "count 3").still(2, "orders 3").still(1, "fits");
        edge("19: that alone").read("z1;a2 0;p1;").due("hears 0", 0).due("keep 0", 0).due("hour", 1)
                .still(2, "tells 1 0", "tells 0 1", "forget");
    }

    private static void fitsNothing() {
        edge("20: nothing told").still(1, "fits").read("z1;").still(1, "fits").due("hears 0", 0).still(1, "fits");
    }

    private static void fitsBothMustBe() {
        edge("20: both must be in it").read("z1;a2 0;p1;").due("tells 0 1", 1).still(0, "fits").due("hears 0", 0)
                .still(0, "fits").due("says 0 1", 0).still(1, "fits").due("undo", 1).still(0, "fits");
        edge("20: the later one alone").read("z1;z1;").due("tells 0 1", 1).due("hears 1", 0).still(0, "fits");
        edge("20: the eighth of them").read("z1;z1;z1;z1;z1;z1;z1;z1;").due("tells 0 7", 1).due("hears 0", 0)
                .still(0, "fits").due("hears 7", 1).still(1, "fits").due("tells 7 0", 2).still(0, "fits");
    }

    private static void fitsTheFirstTime() {
        edge("20: the first time of each").read("z1;z1;").due("tells 0 1", 1).due("hears 1", 0).due("hears 0", 1)
                .still(0, "fits").due("hears 1", 2).still(0, "fits").due("forget", 1).due("tells 1 0", 1)
                .still(1, "fits");
        edge("20: the 29th and the 30th").read("z1;z1;z1;").due("tells 0 1", 1).times(28, "hears 2")
                .due("hears 0", 28).still(0, "fits").due("hears 1", 29).still(1, "fits");
        edge("20: old ones, too").read("z1;z1;o1;").due("tells 0 1", 1).due("hears 0", 0).times(9, "hour")
                .due("hears 1", 1).times(9, "hour").still(1, "fits");
    }

    private static void fitsEach() {
        edge("20: each of these").read("z1;z1;z1;").due("hears 0", 0).due("hears 1", 1).due("hears 2", 2)
                .due("tells 0 1", 1).still(1, "fits").due("tells 1 2", 2).still(1, "fits").due("tells 0 2", 3)
                .still(1, "fits").due("tells 2 1", 4).still(0, "fits");
        edge("20: two ahead of one").read("z1;z1;z1;").due("hears 1", 0).due("hears 2", 1).due("hears 0", 2)
                .due("tells 0 2", 1).due("tells 1 2", 2).still(0, "fits");
        edge("20: one and its contrary").read("z1;z1;").due("hears 0", 0).due("hears 1", 1).due("tells 0 1", 1)
                .due("tells 1 0", 2).still(0, "fits");
    }

    private static void ordersWhichSets() {
        StringBuilder text = new StringBuilder();
        int orders = 1;
        for (int many = 0; many <= 8; many++) {
            int all = (1 << many) - 1;
            edge("21: bits of " + many + " sayings").read(text.toString()).outside("orders %", 0, all, Edge.BAD)
                    .still(orders, "orders " + all);
            text.append("z1;");
            orders *= many + 1;
        }
        edge("21: a bit beyond, and some within").read("z1;a2 0;p1;").still(Edge.BAD, "orders 5")
                .still(Edge.BAD, "orders 7").still(Edge.BAD, "orders 259")
                .still(Edge.BAD, "orders " + (Integer.MIN_VALUE + 3));
    }

    private static void ordersOfNothing() {
        edge("21: an empty set").still(1, "orders 0").read("z1;z1;").due("tells 0 1", 1).due("tells 1 0", 2)
                .still(1, "orders 0");
    }

    private static void ordersOfSounds() {
        edge("21: eight sounds").read("z1;z1;z1;z1;z1;z1;z1;z1;").still(40320, "orders 255").still(1, "orders 128")
                .due("tells 0 7", 1).still(20160, "orders 255").due("tells 7 0", 2).still(0, "orders 255");
    }

    private static void ordersBehindWhatIsAnswered() {
        edge("21: behind one that it answers").read("z1;a2 0;a3 1;p1 2;").still(1, "orders 1").still(0, "orders 2")
                .still(1, "orders 3").still(0, "orders 5").still(0, "orders 6").still(1, "orders 7");
        edge("21: behind one of two").read("z1;z1;a2 0 1;p2;").still(4, "orders 7").still(1, "orders 5")
                .still(1, "orders 6").still(0, "orders 4");
        edge("21: not behind itself").read("z1;a2 1;a2 1 0;p1 2;").still(0, "orders 2").still(0, "orders 3")
                .still(0, "orders 6").still(1, "orders 5");
        edge("21: what answers nothing").read("z1;a2;a2 7;p1 2;").still(0, "orders 2").still(0, "orders 3")
                .still(0, "orders 5");
        edge("21: seven behind one").read("z1;a1 0;a1 0;a1 0;a1 0;a1 0;a1 0;a1 0;p1 2 3 4 5 6 7;")
                .still(5040, "orders 255");
    }

    private static void ordersByThoseWhoKnow() {
        edge("21: by those who know them").read("z1;a2 0;a2 0;p2;").still(0, "orders 3").still(1, "orders 5")
                .still(0, "orders 7").still(1, "orders 1");
        edge("21: by several").read("z1;a2 0;a2 1;p1;p2;").still(1, "orders 7");
    }

    private static void ordersTold() {
        edge("21: all told is so").read("z1;z1;z1;").still(6, "orders 7").due("tells 0 1", 1).still(3, "orders 7")
                .due("tells 1 2", 2).still(1, "orders 7").due("tells 0 1", 3).still(1, "orders 7")
                .due("tells 2 0", 4).still(0, "orders 7");
        edge("21: two told ahead of one").read("z1;z1;z1;").due("tells 0 2", 1).due("tells 1 2", 2)
                .still(2, "orders 7").still(1, "orders 5").still(1, "orders 6");
        edge("21: one told ahead of two").read("z1;z1;z1;").due("tells 2 0", 1).due("tells 2 1", 2)
                .still(2, "orders 7");
        edge("21: told against what is answered").read("z1;a2 0;p1;").due("tells 1 0", 1).still(0, "orders 3")
                .still(1, "orders 1");
    }

    private static void ordersToldOfOthers() {
        edge("21: told of such as are not in the set").read("z1;z1;z1;").due("tells 0 2", 1).due("tells 2 1", 2)
                .still(2, "orders 3").still(1, "orders 1").still(1, "orders 2").still(1, "orders 4")
                .still(1, "orders 7");
    }

    private static void ordersDoNotLookAtTalk() {
        edge("21: talk and hours do not matter").read("z1;a2 0;p1;").due("hears 0", 0).still(0, "orders 2")
                .still(1, "orders 3").times(9, "hour").still(1, "orders 3").times(29, "hears 0")
                .still(1, "orders 3");
    }
}
