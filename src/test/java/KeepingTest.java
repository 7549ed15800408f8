/** Promises 37 to 41 and term 6: reports, undo, a saved state. */
final class KeepingTest {
    private KeepingTest() {
    }

    static void run() {
        reports();
        longReport();
        undoOfEach();
        sixAreKept();
        whatUndoLeaves();
        saving();
        savingAnotherText();
    }

    private static void reports() {
        WakeVillage x = Made.of(Made.CHAIN);
        Check.range("no report", () -> x.reportByte(0));
        Check.equal("at 0", Made.reportOf(x), "a 0/50\nb 2/40\nc 0/30\n");
        x.send(0, 2, 20, false);
        x.send(0, 1, 20, true);
        x.send(2, 1, 20, false);
        Check.equal("with messages", Made.reportOf(x), "a 0/50 0 1!\nb 2/40\nc 0/30 2\n");
        x.tick(1);
        Check.equal("awake ones", Made.reportOf(x), "a 1/47* 0\nb 3/37*\nc 1/30 2\n");
        int length = x.report();
        Check.equal("length", length, 27);
        Check.range("byte -1", () -> x.reportByte(-1));
        Check.range("byte behind", () -> x.reportByte(length));
        Check.range("byte far behind", () -> x.reportByte(Integer.MAX_VALUE));
        x.tick(9);
        Check.equal("the report stays", x.reportByte(0) + x.reportByte(2) * 1000, 97 + 49 * 1000);
        Check.equal("reports are not undone", x.setting(10), 5);
        Made.feed(x, "");
        x.readText();
        Check.equal("a text leaves it", x.reportByte(26), 10);
        Check.equal("of no nodes", x.report(), 0);
        Check.range("a shorter one", () -> x.reportByte(0));
    }

    private static void longReport() {
        StringBuilder text = new StringBuilder("year 60;costs 0 0 0;");
        for (int i = 0; i < 10; i++) {
            text.append("node aaaaaaa").append((char) ('a' + i)).append(" born 59energy 9;");
        }
        WakeVillage x = Made.of(text.toString());
        for (int i = 0; i < 10; i++) {
            Made.run(x, "repeat 11 (charge aaaaaaa" + (char) ('a' + i) + " 999;);");
        }
        for (int i = 0; i < 60; i++) {
            x.send(i % 10, (i + 1) % 10, 9, true);
        }
        x.tick(59);
        StringBuilder due = new StringBuilder();
        for (int i = 0; i < 10; i++) {
            due.append("aaaaaaa").append((char) ('a' + i)).append(" 59/9999*");
            for (int k = i; k < 60; k += 10) {
                due.append(' ').append(k).append('!');
            }
            due.append('\n');
        }
        Check.equal("the longest", Made.reportOf(x), due.toString());
        WakeVillage out = Made.of("node a born 1 energy 1;");
        out.tick(1);
        Check.equal("an out one", Made.reportOf(out), "a 1/0\n");
        WakeVillage round = Made.of("node a born 1 energy 100; node b born 10 energy 1;");
        round.charge(1, 999);
        round.setShift(0, 10);
        Check.equal("zeros", Made.reportOf(round), "a 10/100\nb 0/1000\n");
    }

    /** A village in which all that can change has changed. */
    private static WakeVillage lively() {
        WakeVillage x = Made.of(Made.CHAIN + "node d born 2 energy 1; link c d;");
        x.send(0, 2, 5, false);
        x.send(3, 0, 5, true);
        x.watch(2, 8, true);
        x.tick(12);
        x.send(2, 0, 40, true);
        return x;
    }

    private static void undoOfEach() {
        for (int change = 0; change < 8; change++) {
            WakeVillage x = lively();
            String before = Made.allOf(x);
            int forecast = x.takesIn() * 1000 + x.energyIn(1, 77);
            change(x, change);
            Check.equal("change " + change + " changed something",
                    !Made.allOf(x).equals(before) || x.takesIn() * 1000 + x.energyIn(1, 77) != forecast, true);
            Check.equal("to undo behind change " + change, x.setting(10), 6);
            Check.equal("undo of change " + change, x.undo(), 5);
            Check.equal("undone change " + change, Made.allOf(x), before);
            Check.equal("and what comes " + change, x.takesIn() * 1000 + x.energyIn(1, 77), forecast);
        }
    }

    private static void change(WakeVillage x, int which) {
        switch (which) {
            case 0: x.tick(30); break;
            case 1: x.send(0, 2, 9, true); break;
            case 2: x.setShift(0, 7); break;
            case 3: x.watch(1, 8, true); break;
            case 4: x.setBorn(2, 8); break;
            case 5: x.charge(1, 700); break;
            case 6: x.setMiss(1); break;
            default: Made.run(x, "tick 3; shift a 4; watch a 6; charge b 5; send a b 3; call b a 4; repeat 2 (tick 1;);");
        }
    }

    private static void sixAreKept() {
        WakeVillage x = Made.of(Made.CHAIN);
        for (int i = 1; i <= 9; i++) {
            x.tick(i);
            Check.equal("to undo behind " + i, x.setting(10), Math.min(i, 6));
        }
        for (int i = 9; i >= 4; i--) {
            Check.equal("undo " + i, x.undo(), i - 4);
            Check.equal("the time before " + i, x.setting(3), i * (i - 1) / 2);
        }
        Check.equal("no more", x.undo(), WakeVillage.NONE);
        Check.equal("nothing changes", x.setting(3), 6);
        x.tick(1);
        Check.equal("again", x.undo(), 0);
        Check.equal("the time", x.setting(3), 6);
        Check.equal("misses can be undone", x.setMiss(1), 2);
        x.undo();
        Check.equal("misses were undone", x.setMiss(1), 2);
        WakeVillage again = Made.of(Made.CHAIN);
        again.send(0, 1, 9, true);
        again.tick(3);
        again.undo();
        again.undo();
        again.send(1, 2, 7, false);
        Check.equal("another message in its place", Made.messageOf(again, 0), "1 2 1 0 7 0 -1 0");
        WakeVillage y = Made.of(Made.CHAIN);
        for (int i = 0; i < 20; i++) {
            y.tick(2);
            y.setMiss(3);
            y.undo();
        }
        Check.equal("six of twenty", y.setting(10), 6 - 1);
    }

    private static void whatUndoLeaves() {
        WakeVillage x = Made.of(Made.CHAIN);
        x.tick(3);
        x.save();
        int length = x.report();
        Made.feed(x, "tick 1; foo");
        Check.argument("an error", () -> x.runScript());
        x.feed(0x7469636b, 0x20373b20, 0x20202020, 0x20202020, 0x20202020);
        Check.equal("undo", x.undo(), 0);
        Check.equal("the error stays", x.errorCode() * 100 + x.errorPosition(), 108);
        Check.equal("the report stays", x.reportByte(length - 1), 10);
        Check.equal("the buffer stays", x.runScript(), 1);
        Check.equal("it was tick 7", x.setting(3), 7);
        Check.equal("what is saved stays", x.restore(), 3);
        WakeVillage y = Made.of(Made.CHAIN);
        y.tick(1);
        y.save();
        y.undo();
        Check.equal("saving is not undone", y.restore(), 1);
        Check.equal("restoring is not undone", y.undo(), WakeVillage.NONE);
    }

    private static void saving() {
        WakeVillage x = lively();
        Check.state("nothing was saved", () -> x.restore());
        Check.equal("nothing changed", x.setting(10), 5);
        String before = Made.allOf(x);
        Check.equal("save", x.save(), 12);
        Check.equal("saving is no change", x.setting(10), 5);
        x.tick(50);
        x.setBorn(1, 7);
        x.watch(0, 6, true);
        int length = x.report();
        Check.equal("restore", x.restore(), 12);
        Check.equal("restored", Made.allOf(x), before);
        Check.equal("undo is forgotten", x.setting(10), 0);
        Check.equal("undo", x.undo(), WakeVillage.NONE);
        Check.equal("the report stays", x.reportByte(length - 1), 10);
        x.tick(7);
        Check.equal("it stays saved", x.restore(), 12);
        Check.equal("restored again", Made.allOf(x), before);
        x.tick(7);
        Check.equal("another one", x.save(), 19);
        x.tick(7);
        Check.equal("the other one", x.restore(), 19);
        WakeVillage fresh = new WakeVillage();
        Check.equal("a new one", fresh.save(), 0);
        fresh.tick(3);
        Check.equal("back", fresh.restore(), 0);
    }

    private static void savingAnotherText() {
        WakeVillage x = lively();
        x.setMiss(7);
        String before = Made.allOf(x);
        int later = x.energyIn(1, 50);
        x.save();
        Made.feed(x, "year 30; costs 9 9 9; miss 1; node zz born 29 energy 999; node y born 1 energy 9;");
        x.readText();
        for (int i = 0; i < 9; i++) {
            x.send(1, 0, 999, i % 2 == 0);
        }
        Made.feed(x, "tick 2; foo");
        Check.argument("an error", () -> x.runScript());
        x.feed(0x7469636b, 0x20373b20, 0x20202020, 0x20202020, 0x20202020);
        Check.equal("restore", x.restore(), 12);
        Check.equal("restored", Made.allOf(x), before);
        Check.equal("with its costs", x.energyIn(1, 50), later);
        Check.equal("the error stays", x.errorPosition(), 8);
        Check.equal("the buffer stays", x.runScript(), 1);
        Check.equal("the time", x.setting(3), 19);
        Check.equal("misses", x.setMiss(1), 7);
    }
}
