/** Term 6 and the promises 30 to 41, sentence by sentence: changes, reports, undo and saving at the edges. */
final class EdgeChangeTest {
    private static final int NONE = WakeVillage.NONE;

    private EdgeChangeTest() {
    }

    static void run() {
        tick();
        send();
        setShift();
        watch();
        setBorn();
        charge();
        setMiss();
        report();
        reportOfOutAndThere();
        reportByte();
        undoNone();
        undoOnlyChanges();
        latestFirst();
        latestSix();
        undoLeaves();
        whatForgets();
        whatDoesNotForget();
        save();
        saveLeaves();
        restore();
    }

    private static WakeVillage of(String text) {
        return Made.of("year 10;" + text);
    }

    private static WakeVillage pair() {
        return of("costs 0 1 1; node a born 1 energy 99; node b born 1 energy 99; link a b;");
    }

    private static void tick() {
        WakeVillage x = pair();
        x.send(0, 1, 9, false);
        x.send(1, 0, 9, false);
        x.send(0, 1, 9, false);
        Check.equal("1 tick: two came there", x.tick(1), 2);
        Check.equal("9 ticks: none", x.tick(9), 0);
        Check.equal("the time", x.setting(3), 10);
        Check.equal("99 ticks: one", x.tick(99), 1);
        Check.equal("the time", x.setting(3), 109);
        Made.run(x, "repeat 2(repeat 20(tick 99;););");
        Made.run(x, "repeat 2(repeat 20(tick 99;););");
        Made.run(x, "repeat 19(tick 99;); tick 89;");
        Check.equal("9999 is not above 9999", x.setting(3), 9999);
        Check.state("10000 is", () -> x.tick(1));
    }

    private static void send() {
        WakeVillage x = pair();
        Check.equal("within 1", x.send(0, 1, 1, false), 0);
        Check.equal("its time", x.message(0, 4), 1);
        Check.equal("within 999", x.send(1, 0, 999, true), 1);
        Check.equal("its time", x.message(1, 4), 999);
        for (int i = 2; i < 60; i++) {
            x.send(0, 1, 9, false);
        }
        Check.equal("the 60th", x.setting(4), 60);
        Check.state("60 were sent", () -> x.send(0, 1, 9, false));
        x.undo();
        Check.equal("the 60th again", x.send(1, 0, 5, true), 59);
        Check.equal("it is that one", Made.messageOf(x, 59), "1 0 1 0 5 1 -1 0");
    }

    private static void setShift() {
        WakeVillage x = pair();
        Check.equal("to 9, one less than the year", x.setShift(1, 9), 0);
        Check.equal("the one before", x.setShift(1, 0), 9);
        Check.equal("the same", x.setShift(1, 0), 0);
        Check.equal("of the other one nothing", x.node(0, 1), 0);
        Check.equal("not one that was taken", x.setting(9), 0);
    }

    private static void watch() {
        WakeVillage x = Made.of("year 60; node a born 1 energy 9; node b born 2 energy 9; link a b;");
        for (int day : new int[] {0, 1, 2, 31, 32, 59}) {
            Check.equal("off, and it is so already: " + day, x.watch(0, day, false), false);
            Check.equal("on: " + day, x.watch(0, day, true), true);
            Check.equal("on, and it is so already: " + day, x.watch(0, day, true), false);
            Check.equal("in the table: " + day, x.inTable(0, day), true);
        }
        Check.equal("six days, two of them in it anyway", x.node(0, 9), 6);
        Check.equal("off a birthday", x.watch(0, 1, false), true);
        Check.equal("it is in the table anyway", x.inTable(0, 1), true);
        Check.equal("off day 59", x.watch(0, 59, false), true);
        Check.equal("it is not in the table", x.inTable(0, 59), false);
        Check.equal("nothing is watched by the other one", x.node(1, 9), 2);
        WakeVillage none = Made.of("node a born 1 energy 9;");
        none.watch(0, 1, false);
        Check.equal("false: nothing to undo", none.undo(), NONE);
    }

    private static void setBorn() {
        WakeVillage x = pair();
        Check.equal("to 0", x.setBorn(0, 0), 1);
        Check.equal("to 9, one less than the year", x.setBorn(0, 9), 0);
        Check.equal("the same", x.setBorn(0, 9), 9);
        Check.equal("day 9 for both", x.inTable(0, 9) && x.inTable(1, 9), true);
        Check.equal("day 0 for none", x.inTable(0, 0) || x.inTable(1, 0), false);
        Check.equal("two days each", x.node(0, 9) * 10 + x.node(1, 9), 22);
        x.setBorn(0, 1);
        Check.equal("the birthday of both", x.node(0, 9) * 10 + x.node(1, 9), 11);
    }

    private static void charge() {
        WakeVillage x = of("node a born 1 energy 1; node b born 5 energy 9;");
        Check.equal("by 1", x.charge(0, 1), 2);
        Check.equal("by 999", x.charge(0, 999), 1001);
        for (int i = 2; i <= 9; i++) {
            Check.equal("by 999 again", x.charge(0, 999), 2 + 999 * i);
        }
        Check.equal("to 9998", x.charge(0, 999 - 994) + x.charge(0, 999), 8998 + 9997);
        Check.equal("to just 9999", x.charge(0, 2), 9999);
        Check.equal("at most 9999", x.charge(0, 1), 9999);
        Check.equal("at most 9999 by 999", x.charge(0, 999), 9999);
        x.undo();
        x.undo();
        x.undo();
        Check.equal("1 less is left", x.charge(0, 1), 9998);
        Check.equal("3 too many", x.charge(0, 4), 9999);
        WakeVillage out = of("node a born 1 energy 1;");
        out.tick(1);
        Check.equal("an out one", out.charge(0, 1), 1);
        Check.equal("is out no more", out.setting(8), 1);
    }

    private static void setMiss() {
        WakeVillage x = pair();
        Check.equal("to 1", x.setMiss(1), 3);
        Check.equal("to 9", x.setMiss(9), 1);
        Check.equal("the same", x.setMiss(9), 9);
        Check.equal("each can be undone", x.setting(10), 3);
        x.setShift(1, 5);
        x.tick(41);
        Check.equal("the 9th miss, at 41", x.setting(9), 1);
    }

    private static void report() {
        WakeVillage x = of("costs 0 9 9; node a born 0 energy 9; node bb born 9 shift 9 energy 99; node abcdefgh born 5 energy 999; link a bb;");
        Check.equal("the number of its bytes", x.report(), 31);
        Check.equal("a line each", Made.reportOf(x), "a 0/9*\nbb 9/99*\nabcdefgh 0/999\n");
        for (int i = 0; i < 11; i++) {
            x.send(i % 2, 1 - i % 2, 9, i % 3 == 0);
        }
        Check.equal("messages by number, the urgent ones with a mark",
                Made.reportOf(x), "a 0/9* 0! 2 4 6! 8 10\nbb 9/99* 1 3! 5 7 9!\nabcdefgh 0/999\n");
        x.tick(5);
        Check.equal("days and wakes by them", Made.reportOf(x).split("\n")[2], "abcdefgh 5/999*");
        WakeVillage digits = Made.of("year 60; node a born 1 shift 9 energy 10; node b born 1 shift 10 energy 100; node c born 1 shift 59 energy 1;");
        Check.equal("digits", Made.reportOf(digits), "a 9/10\nb 10/100\nc 59/1\n");
        Made.run(digits, "repeat 20(charge c 999;);charge b 900;");
        Check.equal("four digits", Made.reportOf(digits), "a 9/10\nb 10/1000\nc 59/9999\n");
        Check.equal("no nodes, no bytes", new WakeVillage().report(), 0);
    }

    private static void reportOfOutAndThere() {
        WakeVillage x = of("costs 0 9 9; node a born 1 energy 18; node b born 1 energy 9; node c born 1 energy 9; link a b; link c b;");
        x.send(0, 1, 9, false);
        x.send(2, 1, 9, true);
        x.send(0, 1, 9, false);
        x.tick(1);
        // the urgent one of c is there, and b and c are out
        Check.equal("out: no asterisk; there: no number", Made.reportOf(x), "a 1/18* 0 2\nb 1/0\nc 1/0\n");
        WakeVillage lost = of("node a born 1 energy 1; node b born 5 energy 9; link a b;");
        lost.send(0, 1, 9, true);
        lost.tick(1);
        Check.equal("lost: no number", Made.reportOf(lost), "a 1/0\nb 1/8*\n");
    }

    private static void reportByte() {
        WakeVillage x = pair();
        Check.range("there was no report", () -> x.reportByte(0));
        int length = x.report();
        Check.equal("the first byte", x.reportByte(0), (int) 'a');
        Check.equal("the last byte", x.reportByte(length - 1), 10);
        Check.range("behind the last byte", () -> x.reportByte(length));
        Check.range("before the first byte", () -> x.reportByte(-1));
        x.tick(5);
        Check.equal("of the latest report, not of now", x.reportByte(2), (int) '0');
        x.report();
        Check.equal("in place of the one before", x.reportByte(2), (int) '5');
    }

    private static void undoNone() {
        WakeVillage x = pair();
        String before = Made.allOf(x);
        Check.equal("NONE if there is none", x.undo(), NONE);
        Check.equal("nothing changes", Made.allOf(x) + x.setting(10), before + 0);
        x.tick(1);
        Check.equal("the last one: 0 are left", x.undo(), 0);
        Check.equal("NONE again", x.undo(), NONE);
        Check.equal("all is as before", Made.allOf(x) + x.setting(10), before + 0);
    }

    private static void undoOnlyChanges() {
        WakeVillage x = pair();
        Check.argument("an exception", () -> x.tick(0));
        Check.argument("an exception", () -> x.setMiss(0));
        Check.range("an exception", () -> x.charge(9, 9));
        Check.equal("false", x.watch(0, 1, false), false);
        Made.feed(x, "?");
        Check.argument("a script with an error", () -> x.runScript());
        Check.equal("none of these can be undone", x.undo(), NONE);
        Check.equal("an empty script", x.runScript(), 0);
        Check.equal("a script that does nothing", Made.run(x, "tick 0;"), 0);
        Check.equal("both can be undone", x.setting(10), 2);
        x.setShift(0, 0);
        x.setBorn(0, 1);
        x.setMiss(3);
        Check.equal("a change to the same can be undone", x.setting(10), 5);
        x.report();
        x.save();
        x.takesIn();
        Check.equal("these are no changes", x.setting(10), 5);
    }

    private static void latestFirst() {
        WakeVillage x = pair();
        x.tick(1);
        x.charge(0, 5);
        x.watch(0, 7, true);
        Check.equal("undo the watch", x.undo(), 2);
        Check.equal("the charge stays", x.inTable(0, 7) ? 1 : x.node(0, 2), 104);
        Check.equal("undo the charge", x.undo(), 1);
        Check.equal("the tick stays", x.node(0, 2) * 10 + x.setting(3), 991);
        x.setShift(0, 4);
        Check.equal("undo the shift, which came behind", x.undo(), 1);
        Check.equal("the tick stays", x.node(0, 1) * 10 + x.setting(3), 1);
        Check.equal("undo the tick", x.undo(), 0);
        Check.equal("the time before", x.setting(3), 0);
    }

    private static void latestSix() {
        WakeVillage x = pair();
        for (int i = 1; i <= 5; i++) {
            x.tick(1);
        }
        Check.equal("5 are kept", x.setting(10), 5);
        x.tick(1);
        Check.equal("6 are kept", x.setting(10), 6);
        x.tick(1);
        Check.equal("6 of 7 are kept", x.setting(10), 6);
        for (int left = 5; left >= 0; left--) {
            Check.equal("left", x.undo(), left);
            Check.equal("the time", x.setting(3), left + 1);
        }
        Check.equal("the 7th is not kept", x.undo(), NONE);
        Check.equal("the time behind the first", x.setting(3), 1);
        for (int i = 0; i < 100; i++) {
            x.charge(0, 1);
        }
        Check.equal("6 of 100", x.setting(10), 6);
        while (x.undo() != NONE) {
            Check.equal("one less each", x.node(0, 2), 193 + x.setting(10));
        }
    }

    private static void undoLeaves() {
        WakeVillage x = pair();
        x.tick(1);
        x.save();
        x.tick(1);
        int length = x.report();
        Made.feed(x, "tick ?");
        Check.argument("an error", () -> x.runScript());
        Made.feed(x, "tick 3;");
        Check.equal("undo", x.undo(), 1);
        Check.equal("the report is as it was", x.reportByte(2) * 1000 + length, '2' * 1000 + 14);
        Check.equal("the error is as it was", x.errorCode() + " " + x.errorPosition(), "1 5");
        Check.equal("the buffer is as it was", x.truncate(7), 7);
        Check.equal("it runs", x.runScript() * 10 + x.setting(3), 14);
        x.undo();
        x.undo();
        Check.equal("time 0", x.setting(3), 0);
        Check.equal("what is saved is as it was", x.restore(), 1);
    }

    private static void whatForgets() {
        WakeVillage x = pair();
        x.tick(1);
        x.readText();
        Check.equal("readText() forgets them", x.setting(10), 0);
        Check.equal("none to undo", x.undo(), NONE);
        x.tick(1);
        x.save();
        x.tick(1);
        x.restore();
        Check.equal("restore() forgets them", x.setting(10), 0);
        Check.equal("none to undo", x.undo(), NONE);
        Check.equal("the time that was saved", x.setting(3), 1);
    }

    private static void whatDoesNotForget() {
        WakeVillage x = pair();
        x.tick(1);
        Made.feed(x, "year 3;");
        Check.argument("a text with an error", () -> x.readText());
        Check.equal("does not forget", x.setting(10), 1);
        Check.state("restore() without a saved state", () -> x.restore());
        Check.equal("does not forget", x.setting(10), 1);
        x.save();
        Check.equal("save() does not forget", x.setting(10), 1);
        x.report();
        Check.equal("report() does not forget", x.undo(), 0);
    }

    private static void save() {
        WakeVillage x = pair();
        Check.equal("the time, 0", x.save(), 0);
        x.send(0, 1, 9, false);
        x.watch(0, 7, true);
        x.setMiss(7);
        x.tick(12);
        String then = Made.allOf(x);
        Check.equal("the time, 12, in place of the earlier one", x.save(), 12);
        x.setMiss(2);
        x.watch(0, 7, false);
        x.tick(7);
        x.setBorn(1, 8);
        Check.equal("restored", x.restore(), 12);
        Check.equal("all of it", Made.allOf(x), then);
        Check.equal("misses, too", x.setMiss(1), 7);
        WakeVillage empty = new WakeVillage();
        empty.save();
        Made.feed(empty, Made.CHAIN);
        empty.readText();
        Check.equal("a state without nodes", empty.restore() + empty.setting(0), 0);
        Check.equal("its year", empty.setting(2), 12);
    }

    private static void saveLeaves() {
        WakeVillage x = pair();
        x.tick(1);
        x.report();
        x.save();
        Made.feed(x, "tick 1; ?");
        Check.argument("an error", () -> x.runScript());
        x.tick(4);
        int length = x.report();
        Made.feed(x, "tick 1;");
        x.restore();
        Check.equal("all but the buffer", x.truncate(7), 7);
        Check.equal("all but the error", x.errorCode() + " " + x.errorPosition(), "1 8");
        Check.equal("all but the report", x.reportByte(2) * 1000 + length, '5' * 1000 + 14);
        Check.equal("all but what can be undone", x.undo(), NONE);
        Check.equal("the buffer runs", x.runScript() * 10 + x.setting(3), 12);
    }

    private static void restore() {
        WakeVillage x = pair();
        Check.state("nothing was saved", () -> x.restore());
        x.save();
        x.tick(3);
        Check.equal("the time then", x.restore(), 0);
        x.tick(4);
        Check.equal("what was saved stays", x.restore(), 0);
        x.tick(5);
        Check.equal("a change behind it can be undone", x.undo(), 0);
        Check.equal("undo does not undo the restoring", x.undo(), NONE);
        x.tick(6);
        x.undo();
        Check.equal("what was saved stays by undo", x.restore(), 0);
        Made.feed(x, Made.CHAIN);
        x.readText();
        Check.equal("and by a text", x.restore() + x.setting(0), 2);
    }
}
