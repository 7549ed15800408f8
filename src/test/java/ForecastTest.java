/** Promises 23 to 29: what comes, if only ticks go by. */
final class ForecastTest {
    private ForecastTest() {
    }

    static void run() {
        arrivals();
        wouldBe();
        outs();
        energies();
        takes();
        bestShifts();
        bestShiftsWithOutOnes();
        bestWatches();
        beyondTheLatestTime();
    }

    private static void arrivals() {
        WakeVillage x = Made.of(Made.CHAIN);
        x.send(0, 2, 20, false);
        Check.equal("there in 3", x.arrives(0), 3);
        x.tick(1);
        Check.equal("there in 2", x.arrives(0), 2);
        x.tick(2);
        Check.equal("there", x.arrives(0), 0);
        x.tick(5);
        Check.equal("there for long", x.arrives(0), 0);
        Check.range("arrives -1", () -> x.arrives(-1));
        Check.range("arrives 1", () -> x.arrives(1));
        WakeVillage y = Made.of("node a born 1 energy 1; node b born 2 energy 9; link a b;");
        y.send(0, 1, 7, false);
        Check.equal("will be lost", y.arrives(0), WakeVillage.NONE);
        y.tick(1);
        Check.equal("is lost", y.arrives(0), WakeVillage.NONE);
        WakeVillage z = Made.of("node a born 1 energy 99; node b born 2 energy 99;");
        z.send(0, 1, 7, true);
        Check.equal("no way", z.arrives(0), WakeVillage.NONE);
    }

    /** They meet once in 60 ticks, and one message passes in a tick. */
    private static WakeVillage yearLong(int messages) {
        WakeVillage x = Made.of("year 60; costs 0 0 0; node a born 20 energy 9; node b born 20 energy 9; link a b;");
        for (int i = 0; i < messages; i++) {
            x.send(0, 1, 9, false);
        }
        return x;
    }

    private static void wouldBe() {
        WakeVillage x = Made.of(Made.CHAIN);
        Check.equal("not urgent", x.wouldArrive(0, 2, false), 3);
        Check.equal("urgent", x.wouldArrive(0, 2, true), 2);
        // at 1 all three wait for b or c; c first wakes at 3
        Check.equal("back", x.wouldArrive(2, 0, false), 11);
        Check.argument("to itself", () -> x.wouldArrive(1, 1, true));
        Check.range("from 3", () -> x.wouldArrive(3, 1, true));
        Check.range("to 3", () -> x.wouldArrive(1, 3, true));
        Check.range("from -1", () -> x.wouldArrive(-1, 1, true));
        Check.range("range first", () -> x.wouldArrive(3, 3, true));
        Check.equal("no message was sent", x.setting(4), 0);
        WakeVillage y = yearLong(3);
        Check.equal("the first", y.arrives(0), 20);
        Check.equal("the third", y.arrives(2), 140);
        Check.equal("a fourth, on the last tick", y.wouldArrive(0, 1, false), 200);
        Check.equal("a fourth urgent one", y.wouldArrive(0, 1, true), 1);
        y.setShift(0, 59);
        y.setShift(1, 59);
        Check.equal("on tick 201", y.wouldArrive(0, 1, false), WakeVillage.NONE);
        WakeVillage full = yearLong(60);
        full.tick(99);
        full.tick(99);
        Check.equal("60 were sent", full.setting(4), 60);
        Check.equal("there is no room, but it counts", full.wouldArrive(1, 0, false), 2);
        Check.equal("the 61st waits for all", full.wouldArrive(0, 1, false), WakeVillage.NONE);
        WakeVillage out = Made.of("year 10; costs 1 0 0; node a born 1 energy 1; node b born 5 energy 9; link a b;");
        Check.equal("at once", out.wouldArrive(1, 0, true), WakeVillage.NONE);
        out.tick(1);
        Check.equal("from an out one", out.wouldArrive(0, 1, true), WakeVillage.NONE);
        Check.equal("to an out one", out.wouldArrive(1, 0, true), WakeVillage.NONE);
        Check.argument("an out one to itself", () -> out.wouldArrive(0, 0, true));
        out.charge(0, 5);
        Check.equal("a charged one", out.wouldArrive(1, 0, true), 1);
    }

    private static void outs() {
        WakeVillage x = Made.of("year 10; node a born 1 energy 2; node b born 2 energy 21; node c born 2 energy 20;");
        Check.equal("in its second wake", x.outIn(0), 11);
        Check.equal("in 202", x.outIn(1), WakeVillage.NONE);
        Check.equal("in 192", x.outIn(2), 192);
        x.setShift(2, 2);
        Check.equal("in 200", x.outIn(2), 200);
        x.setShift(2, 1);
        x.charge(2, 1);
        Check.equal("in 201", x.outIn(2), WakeVillage.NONE);
        x.tick(11);
        Check.equal("is out", x.outIn(0), 0);
        Check.range("out 3", () -> x.outIn(3));
        Check.range("out -1", () -> x.outIn(-1));
    }

    private static void energies() {
        WakeVillage x = Made.of(Made.CHAIN);
        Check.equal("now", x.energyIn(1, 0), 40);
        Check.equal("behind 1", x.energyIn(1, 1), 39);
        Check.equal("behind 3", x.energyIn(1, 3), 38);
        x.send(0, 2, 9, false);
        Check.equal("with a message", x.energyIn(1, 3), 34);
        Check.equal("a shift is taken at 11", x.energyIn(2, 20), 25);
        Check.equal("behind 200", Made.of("year 10; node a born 0 energy 50;").energyIn(0, 200), 30);
        Check.argument("behind -1", () -> x.energyIn(1, -1));
        Check.argument("behind 201", () -> x.energyIn(1, 201));
        Check.range("of 3", () -> x.energyIn(3, 0));
        Check.range("range first", () -> x.energyIn(-1, -1));
        Check.equal("nothing went by", x.setting(3), 0);
    }

    private static void takes() {
        WakeVillage x = Made.of(Made.CHAIN);
        Check.equal("the first", x.takesIn(), 11);
        x.tick(10);
        Check.equal("in 1", x.takesIn(), 1);
        x.tick(1);
        Check.equal("it was taken", x.setting(9), 1);
        // b and c then meet for ever; a and b miss at 19, and at 21 they meet
        Check.equal("never again", x.takesIn(), WakeVillage.NONE);
        Check.equal("no links", Made.of("node a born 1 energy 9;").takesIn(), WakeVillage.NONE);
        String rare = "year 50; costs 0 1 1; miss 4; node a born 1 energy 9; node b born 1 shift 25 energy 9; link a b;";
        WakeVillage y = Made.of(rare);
        Check.equal("both wake and miss: 1 26 51 76", y.takesIn(), 76);
        y.setMiss(8);
        Check.equal("at 176", y.takesIn(), 176);
        y.setShift(0, 1);
        y.setShift(1, 26);
        Check.equal("at 200", y.takesIn(), 200);
        y.setShift(0, 0);
        y.setShift(1, 25);
        y.setMiss(9);
        Check.equal("at 201", y.takesIn(), WakeVillage.NONE);
    }

    private static void bestShifts() {
        WakeVillage x = Made.of(Made.CHAIN);
        // c {3, 5} with b at 1 (day 3): shift 2 or 4 meets in 1, 2 is the lower
        Check.equal("of c", x.bestShift(2), 2);
        // a {1, 3} with b awake at 1: shift 0 or 2
        Check.equal("of a", x.bestShift(0), 0);
        // b {1, 3, 5} with a (1, 3) and c (3, 5): 0 meets both at 3, 2 meets a at 1 and c at 3
        Check.equal("of b", x.bestShift(1), 0);
        Check.equal("no links", Made.of("node a born 1 energy 9;").bestShift(0), WakeVillage.NONE);
        Check.range("of 3", () -> x.bestShift(3));
        Check.range("of -1", () -> x.bestShift(-1));
        // the table of a is just {4}, and b wakes at 1 (and each year)
        WakeVillage y = Made.of("year 6; node a born 4 energy 9; node b born 4 shift 3 energy 9; link a b;");
        Check.equal("one shift meets at once", y.bestShift(0), 3);
        WakeVillage last = Made.of("year 6; node a born 4 energy 9; node b born 4 shift 5 energy 9; link a b;");
        Check.equal("the last shift", last.bestShift(0), 5);
        last.tick(5);
        Check.equal("as it is now", last.bestShift(0), 5);
    }

    private static void bestShiftsWithOutOnes() {
        WakeVillage x = Made.of("year 6; costs 1 0 0; node a born 1 energy 1; node b born 3 shift 1 energy 9; "
                + "node c born 3 shift 4 energy 9; link a b; link b c;");
        x.tick(1);
        Check.equal("a is out", x.node(0, 2), 0);
        Check.equal("of an out one", x.bestShift(0), 0);
        Check.equal("with an out one", x.bestShift(1), 0);
        // c {3} with b {1, 3}, at 2 (day 3): day 3 in 1 is shift 1, the least
        Check.equal("without it", x.bestShift(2), 1);
    }

    private static void bestWatches() {
        // both wake at 5 alone; b calls a day 2 too, at 2, so that a should watch 2
        WakeVillage x = Made.of("year 10; node a born 5 energy 50; node b born 5 energy 50; node c born 2 energy 50; "
                + "link a b; link b c;");
        Check.equal("without", x.wouldArrive(0, 1, false), 5);
        Check.equal("watch 2", x.bestWatch(0, 1), 2);
        x.watch(0, 2, true);
        Check.equal("with", x.wouldArrive(0, 1, false), 2);
        Check.equal("no sooner", x.bestWatch(0, 1), WakeVillage.NONE);
        x.watch(0, 2, false);
        // a to c goes over b: b and c meet at 2 and 5, so that it must be at b by then
        Check.equal("to c", x.wouldArrive(0, 2, false), 12);
        Check.equal("watch for c: b passes it at 5", x.bestWatch(0, 2), 2);
        Check.argument("to itself", () -> x.bestWatch(1, 1));
        Check.range("from 3", () -> x.bestWatch(3, 1));
        Check.range("to 3", () -> x.bestWatch(1, 3));
        Check.range("to -1", () -> x.bestWatch(1, -1));
        Check.range("range first", () -> x.bestWatch(3, 3));
        // b wakes at 3, a at 5, and no shift is taken before 243
        WakeVillage y = Made.of("year 60; miss 9; node a born 5 energy 50; node b born 5 shift 2 energy 50; link a b;");
        Check.equal("never without", y.wouldArrive(0, 1, false), WakeVillage.NONE);
        Check.equal("watch 3", y.bestWatch(0, 1), 3);
        Check.equal("watch 7, the other way", y.bestWatch(1, 0), 7);
        Check.equal("nothing was sent or watched", y.setting(4) + y.node(0, 9), 1);
        WakeVillage alone = Made.of("node a born 5 energy 50; node b born 5 energy 50;");
        Check.equal("no way at all", alone.bestWatch(0, 1), WakeVillage.NONE);
        WakeVillage out = Made.of("year 10; node a born 1 energy 1; node b born 5 energy 50; link a b;");
        out.tick(1);
        Check.equal("from an out one", out.bestWatch(0, 1), WakeVillage.NONE);
        Check.equal("to an out one", out.bestWatch(1, 0), WakeVillage.NONE);
        // b watches 7 and 8, so that 7 is the sooner and the lower
        WakeVillage two = Made.of("year 10; node a born 5 shift 5 energy 50; node b born 5 shift 5 energy 50; link a b;");
        two.watch(1, 8, true);
        two.watch(1, 7, true);
        Check.equal("the soonest of two", two.bestWatch(0, 1), 7);
        two.setShift(0, 6);
        Check.equal("by its own shift", two.bestWatch(0, 1), 8);
        two.setShift(0, 5);
        two.tick(2);
        Check.equal("7 is gone by", two.bestWatch(0, 1), 8);
        // b watches 4, which is just one tick sooner than their birthday, and then 0
        WakeVillage one = Made.of("year 10; node a born 5 shift 6 energy 50; node b born 5 shift 6 energy 50; link a b;");
        one.watch(1, 4, true);
        Check.equal("one tick sooner", one.bestWatch(0, 1), 4);
        one.watch(1, 0, true);
        Check.equal("day 0", one.bestWatch(0, 1), 0);
        one.watch(1, 9, true);
        Check.equal("day 9, the last, is sooner", one.bestWatch(0, 1), 9);
    }

    private static void beyondTheLatestTime() {
        WakeVillage x = Made.of("year 10; costs 0 1 1; node a born 1 energy 50;");
        Made.run(x, "repeat 2 (repeat 20 (tick 99;););");
        Made.run(x, "repeat 2 (repeat 20 (tick 99;););");
        Made.run(x, "repeat 20 (tick 99;); tick 99;");
        Check.equal("the latest time", x.setting(3), 9999);
        Check.equal("energy beyond it", x.energyIn(0, 200), 50);
        Check.equal("awake beyond it", x.awakeIn(2), 1);
    }
}
