/** Promises 31 to 36: changes but ticks. */
final class ChangeTest {
    private ChangeTest() {
    }

    static void run() {
        sends();
        shifts();
        watches();
        births();
        charges();
        misses();
    }

    private static void sends() {
        WakeVillage x = Made.of(Made.CHAIN);
        Check.range("send from -1", () -> x.send(-1, 0, 1, true));
        Check.range("send from 3", () -> x.send(3, 0, 1, true));
        Check.range("send to 3", () -> x.send(0, 3, 1, true));
        Check.range("send to -1", () -> x.send(0, -1, 1, true));
        Check.range("range first", () -> x.send(3, 3, 0, true));
        Check.argument("to itself", () -> x.send(1, 1, 5, true));
        Check.argument("within 0", () -> x.send(0, 1, 0, true));
        Check.argument("within -1", () -> x.send(0, 1, -1, true));
        Check.argument("within 1000", () -> x.send(0, 1, 1000, true));
        Check.equal("none was sent", x.setting(4), 0);
        Check.equal("none to undo", x.setting(10), 0);
        Check.equal("within 1", x.send(0, 1, 1, true), 0);
        Check.equal("within 999", x.send(0, 1, 999, true), 1);
        for (int i = 2; i < 60; i++) {
            Check.equal("number " + i, x.send(i % 3, (i + 1) % 3, 5, i % 2 == 0), i);
        }
        Check.state("the 61st", () -> x.send(0, 1, 5, false));
        Check.argument("the 61st to itself", () -> x.send(0, 0, 5, false));
        Check.equal("60", x.setting(4), 60);
        Check.equal("all but the latest stay", Made.messageOf(x, 59), "2 0 2 0 5 0 -1 0");
        x.undo();
        Check.equal("undone, there is room", x.send(0, 1, 5, false), 59);
        WakeVillage y = Made.of("year 10; node a born 1 energy 1; node b born 5 energy 9; node c born 5 energy 9;");
        y.tick(1);
        Check.state("from an out one", () -> y.send(0, 1, 5, false));
        Check.state("to an out one", () -> y.send(1, 0, 5, false));
        Check.argument("an argument first", () -> y.send(1, 0, 0, false));
        Check.equal("with no way", y.send(1, 2, 5, false), 0);
        y.charge(0, 1);
        Check.equal("to a charged one", y.send(1, 0, 5, false), 1);
    }

    private static void shifts() {
        WakeVillage x = Made.of(Made.CHAIN);
        Check.equal("the one before", x.setShift(1, 9), 2);
        Check.equal("and then", x.setShift(1, 0), 9);
        Check.equal("the same", x.setShift(1, 0), 0);
        Check.equal("the same counts, too", x.setting(10), 3);
        Check.equal("not a taken one", x.setting(9), 0);
        Check.argument("shift -1", () -> x.setShift(1, -1));
        Check.argument("shift 10", () -> x.setShift(1, 10));
        Check.range("shift of 3", () -> x.setShift(3, 0));
        Check.range("shift of -1", () -> x.setShift(-1, 0));
        Check.range("range first", () -> x.setShift(3, 10));
        Check.equal("it stays", x.node(1, 1), 0);
        x.setShift(0, 4);
        x.tick(8);
        Check.equal("the day", x.node(0, 3), 2);
    }

    private static void watches() {
        WakeVillage x = Made.of(Made.CHAIN);
        Check.equal("on", x.watch(0, 9, true), true);
        Check.equal("on again", x.watch(0, 9, true), false);
        Check.equal("off", x.watch(0, 9, false), true);
        Check.equal("off again", x.watch(0, 9, false), false);
        Check.equal("false is not undone", x.setting(10), 2);
        Check.equal("its birthday is not watched", x.watch(0, 1, false), false);
        Check.equal("its birthday watched", x.watch(0, 1, true), true);
        Check.equal("in the table once", x.node(0, 9), 2);
        x.setBorn(0, 6);
        Check.equal("watched still", x.inTable(0, 1), true);
        Check.equal("no longer for b", x.inTable(1, 1), false);
        x.watch(0, 1, false);
        Check.equal("no longer", x.inTable(0, 1), false);
        Check.argument("watch -1", () -> x.watch(0, -1, true));
        Check.argument("watch 10", () -> x.watch(0, 10, false));
        Check.range("watch of 3", () -> x.watch(3, 0, true));
        Check.range("watch of -1", () -> x.watch(-1, 0, true));
        Check.range("range first", () -> x.watch(-1, -1, true));
    }

    private static void births() {
        WakeVillage x = Made.of(Made.CHAIN);
        Check.equal("the one before", x.setBorn(1, 9), 3);
        Check.equal("the same", x.setBorn(1, 9), 9);
        Check.equal("the same counts, too", x.setting(10), 2);
        Check.equal("it is", x.node(1, 0), 9);
        Check.equal("of the next one", x.inTable(2, 9), true);
        Check.equal("born 0", x.setBorn(1, 0), 9);
        Check.argument("born -1", () -> x.setBorn(1, -1));
        Check.argument("born 10", () -> x.setBorn(1, 10));
        Check.range("born of 3", () -> x.setBorn(3, 0));
        Check.range("born of -1", () -> x.setBorn(-1, 0));
        Check.range("range first", () -> x.setBorn(3, 10));
    }

    private static void charges() {
        WakeVillage x = Made.of(Made.CHAIN);
        Check.equal("by 1", x.charge(2, 1), 31);
        Check.equal("by 999", x.charge(2, 999), 1030);
        for (int i = 2; i < 10; i++) {
            x.charge(2, 999);
        }
        Check.equal("to 9999", x.charge(2, 999), 9999);
        Check.equal("at 9999", x.charge(2, 1), 9999);
        Check.equal("it is", x.node(2, 2), 9999);
        Check.argument("by 0", () -> x.charge(2, 0));
        Check.argument("by -1", () -> x.charge(2, -1));
        Check.argument("by 1000", () -> x.charge(2, 1000));
        Check.range("charge 3", () -> x.charge(3, 1));
        Check.range("charge -1", () -> x.charge(-1, 1));
        Check.range("range first", () -> x.charge(3, 0));
    }

    private static void misses() {
        WakeVillage x = Made.of(Made.CHAIN);
        Check.equal("of the text", x.setMiss(9), 2);
        Check.equal("the one before", x.setMiss(1), 9);
        Check.equal("the same", x.setMiss(1), 1);
        Check.equal("to undo", x.setting(10), 3);
        Check.argument("miss 0", () -> x.setMiss(0));
        Check.argument("miss 10", () -> x.setMiss(10));
        Check.equal("it takes at once", x.takesIn(), 1);
        Check.equal("the default", Made.of("year 9;").setMiss(2), 3);
    }
}
