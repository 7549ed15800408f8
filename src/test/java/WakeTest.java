/** Promises 16 to 22: wakes and ways. */
final class WakeTest {
    /** A ring a b c d e with a tail e f, and g alone; out on the first tick: c, when told so. */
    private static final String RING = "year 10; costs 1 0 0; node a born 5 energy 9; node b born 5 energy 9; "
            + "node c born 5 energy 9; node d born 5 energy 9; node e born 5 energy 9; "
            + "node f born 5 energy 9; node g born 5 energy 9; "
            + "link a b; link b c; link c d; link d e; link e a; link e f;";

    private WakeTest() {
    }

    static void run() {
        awake();
        meets();
        worst();
        busiest();
        hops();
        nextNodes();
        outOnes();
        widest();
        nothingChanges();
    }

    private static void awake() {
        WakeVillage x = Made.of(Made.CHAIN);
        int[] due = {0, 3, 0, 7, 0, 4, 0, 0, 0, 2, 0, 3};
        for (int ticks = 0; ticks < due.length; ticks++) {
            Check.equal("awake in " + ticks, x.awakeIn(ticks), due[ticks]);
        }
        Check.equal("awake in 99", x.awakeIn(99), 2);
        Check.argument("awake in -1", () -> x.awakeIn(-1));
        Check.argument("awake in 100", () -> x.awakeIn(100));
        x.tick(3);
        Check.equal("awake now", x.awakeIn(0), 7);
        Check.equal("awake in 8 from 3, no shift taken", x.awakeIn(8), 3);
        WakeVillage y = Made.of("year 10; node a born 1 energy 1; node b born 2 energy 9;");
        Check.equal("energy is not used up in thought", y.awakeIn(11), 1);
        y.tick(1);
        Check.equal("an out one is not awake", y.awakeIn(10), 0);
    }

    private static void meets() {
        WakeVillage x = Made.of(Made.CHAIN);
        Check.equal("a and b", x.meetsIn(0, 1), 1);
        Check.equal("b and c", x.meetsIn(1, 2), 3);
        Check.equal("c and b", x.meetsIn(2, 1), 3);
        Check.equal("a and c, no link", x.meetsIn(0, 2), 3);
        Check.equal("the same", x.meetsIn(1, 1), WakeVillage.NONE);
        x.tick(3);
        Check.equal("not now but in a year", x.meetsIn(1, 2), 10);
        x.setShift(2, 1);
        Check.equal("never", x.meetsIn(0, 2), WakeVillage.NONE);
        Check.range("meets -1", () -> x.meetsIn(-1, 0));
        Check.range("meets of 3", () -> x.meetsIn(3, 0));
        Check.range("with 3", () -> x.meetsIn(0, 3));
        Check.range("with -1", () -> x.meetsIn(0, -1));
        WakeVillage y = Made.of("year 10; node a born 1 energy 1; node b born 2 energy 9; link a b;");
        Check.equal("before it is out", y.meetsIn(0, 1), 1);
        y.tick(1);
        Check.equal("with an out one", y.meetsIn(1, 0), WakeVillage.NONE);
    }

    private static void worst() {
        WakeVillage x = Made.of(Made.CHAIN);
        Check.equal("the latest", x.worstLink(), 1);
        x.tick(1);
        Check.equal("both in 2: the lowest", x.worstLink(), 0);
        x.setShift(0, 6);
        Check.equal("never is the latest", x.worstLink(), 0);
        x.setShift(2, 6);
        Check.equal("the lowest of two never", x.worstLink(), 0);
        Check.equal("no links", Made.of("node a born 1 energy 1;").worstLink(), WakeVillage.NONE);
        WakeVillage y = Made.of(RING);
        Check.equal("the lowest of all alike", y.worstLink(), 0);
        y.tick(1);
        y.setShift(5, 4);
        Check.equal("f meets never", y.worstLink(), 5);
        WakeVillage late = Made.of("year 10; node a born 1 energy 9; node b born 2 energy 9; node c born 0 energy 9;"
                + "node d born 0 energy 9; link a b; link c d; link b c;");
        // a and b meet in 1, c and d in 10 (2 is in the table of c alone), b and c in 2
        Check.equal("in a year", late.worstLink(), 1);
    }

    private static void busiest() {
        WakeVillage x = Made.of(Made.CHAIN);
        Check.equal("most in 3", x.busiest(), 3);
        x.tick(3);
        Check.equal("in a year again", x.busiest(), 10);
        x.tick(7);
        Check.equal("two at 11, three at 13", x.busiest(), 3);
        x.watch(2, 1, true);
        Check.equal("three at 11 and 13", x.busiest(), 1);
        WakeVillage y = Made.of("year 10; node a born 4 energy 1; node b born 2 energy 9;");
        Check.equal("the least of two alike", y.busiest(), 2);
        y.tick(4);
        Check.equal("an out one does not count", y.busiest(), 8);
        WakeVillage z = Made.of("year 10; node a born 4 energy 1;");
        z.tick(4);
        Check.equal("all are out", z.busiest(), 1);
    }

    private static void hops() {
        WakeVillage x = Made.of(RING);
        Check.equal("one", x.hops(0, 1), 1);
        Check.equal("two", x.hops(0, 2), 2);
        Check.equal("over the other side", x.hops(0, 3), 2);
        Check.equal("three", x.hops(5, 1), 3);
        Check.equal("the same", x.hops(3, 3), 0);
        Check.equal("no way", x.hops(0, 6), WakeVillage.NONE);
        Check.range("hops -1", () -> x.hops(-1, 0));
        Check.range("hops of 7", () -> x.hops(7, 0));
        Check.range("hops to 7", () -> x.hops(0, 7));
        Check.range("hops to -1", () -> x.hops(0, -1));
        StringBuilder row = new StringBuilder();
        for (int i = 0; i < 10; i++) {
            row.append("node ").append((char) ('a' + i)).append(" born 1 energy 9;");
            if (i > 0) {
                row.append("link ").append((char) ('a' + i - 1)).append((char) 32).append((char) ('a' + i)).append(';');
            }
        }
        WakeVillage y = Made.of(row.toString());
        Check.equal("nine hops", y.hops(0, 9), 9);
        Check.equal("nine hops back", y.hops(9, 0), 9);
        Check.equal("the next of nine", y.nextNode(0, 9), 1);
        Check.equal("the next of nine back", y.nextNode(9, 0), 8);
        Check.equal("widest nine", y.widest(), 9);
    }

    private static void nextNodes() {
        WakeVillage x = Made.of(RING);
        Check.equal("to a neighbour", x.nextNode(0, 1), 1);
        Check.equal("over b", x.nextNode(0, 2), 1);
        Check.equal("over e", x.nextNode(0, 3), 4);
        Check.equal("over e to f", x.nextNode(0, 5), 4);
        Check.equal("from f", x.nextNode(5, 2), 4);
        Check.equal("the same", x.nextNode(2, 2), WakeVillage.NONE);
        Check.equal("no way", x.nextNode(0, 6), WakeVillage.NONE);
        Check.equal("from alone", x.nextNode(6, 0), WakeVillage.NONE);
        Check.range("next -1", () -> x.nextNode(-1, 0));
        Check.range("next of 7", () -> x.nextNode(7, 0));
        Check.range("next to 7", () -> x.nextNode(0, 7));
        Check.range("next to -1", () -> x.nextNode(0, -1));
        WakeVillage y = Made.of("node a born 1 energy 9; node b born 1 energy 9; node c born 1 energy 9;"
                + "node d born 1 energy 9; link c d; link a c; link d b; link b a;");
        Check.equal("the lowest of two", y.nextNode(0, 3), 1);
        Check.equal("the lowest of two back", y.nextNode(3, 0), 1);
        Check.equal("the lowest of two across", y.nextNode(2, 1), 0);
    }

    private static void outOnes() {
        WakeVillage x = Made.of(RING.replace("c born 5 energy 9", "c born 1 energy 1"));
        x.tick(1);
        Check.equal("c is out", x.node(2, 2), 0);
        Check.equal("round c", x.hops(1, 3), 3);
        Check.equal("round c, next", x.nextNode(1, 3), 0);
        Check.equal("from an out one", x.hops(2, 1), WakeVillage.NONE);
        Check.equal("to an out one", x.hops(1, 2), WakeVillage.NONE);
        Check.equal("from an out one to itself", x.hops(2, 2), WakeVillage.NONE);
        Check.equal("next from an out one", x.nextNode(2, 1), WakeVillage.NONE);
        Check.equal("next to an out one", x.nextNode(1, 2), WakeVillage.NONE);
        x.charge(2, 1);
        Check.equal("charged", x.hops(1, 3), 2);
        Check.equal("charged, next", x.nextNode(1, 3), 2);
    }

    private static void widest() {
        WakeVillage x = Made.of(RING.replace("c born 5 energy 9", "c born 1 energy 1"));
        Check.equal("widest", x.widest(), 3);
        x.tick(1);
        // now the row b a e with d and f at e
        Check.equal("widest without c", x.widest(), 3);
        Check.equal("widest of a chain", Made.of(Made.CHAIN).widest(), 2);
        Check.equal("no links", Made.of("node a born 1 energy 1; node b born 1 energy 1;").widest(), 0);
        WakeVillage y = Made.of("year 10; node a born 1 energy 9; node b born 1 energy 1; node c born 5 energy 9; "
                + "link a b; link b c;");
        y.tick(1);
        Check.equal("no way at all", y.widest(), 0);
    }

    private static void nothingChanges() {
        WakeVillage x = Made.of(Made.CHAIN);
        x.tick(3);
        String before = Made.allOf(x);
        x.awakeIn(9);
        x.meetsIn(0, 1);
        x.worstLink();
        x.busiest();
        x.hops(0, 2);
        x.nextNode(0, 2);
        x.widest();
        x.bestShift(1);
        x.bestWatch(0, 2);
        x.wouldArrive(0, 2, true);
        x.outIn(1);
        x.energyIn(1, 200);
        x.takesIn();
        Check.equal("asking changes nothing", Made.allOf(x), before);
        Check.equal("asking is not undone", x.setting(10), 1);
    }
}
