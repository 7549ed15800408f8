/** Promises 8 to 15: what is there. */
final class ViewTest {
    private ViewTest() {
    }

    static void run() {
        settings();
        nodes();
        links();
        messages();
        letters();
        tables();
        duty();
        means();
    }

    private static void settings() {
        WakeVillage x = Made.of(Made.CHAIN);
        Check.argument("setting -1", () -> x.setting(-1));
        Check.argument("setting 11", () -> x.setting(11));
        Check.equal("nodes", x.setting(0), 3);
        Check.equal("links", x.setting(1), 2);
        Check.equal("year", x.setting(2), 10);
        // there at 3: within 3, and not within 2
        x.send(0, 2, 3, false);
        x.send(1, 2, 2, false);
        x.tick(3);
        Check.equal("time", x.setting(3), 3);
        Check.equal("messages", x.setting(4), 2);
        Check.equal("one there, as b passes one in a tick", x.setting(5), 1);
        Check.equal("there within 3", x.setting(6), 1);
        x.tick(10);
        Check.equal("both there", x.setting(5), 2);
        Check.equal("one within its ticks", x.setting(6), 1);
        Check.equal("lost", x.setting(7), 0);
        Check.equal("not out", x.setting(8), 3);
        Check.equal("taken", x.setting(9), 1);
        Check.equal("to undo", x.setting(10), 4);
        WakeVillage three = Made.of(Made.CHAIN);
        three.send(0, 1, 1, false);
        three.send(0, 1, 9, true);
        three.send(1, 0, 2, false);
        three.tick(30);
        Check.equal("all three there", three.setting(5), 3);
        Check.equal("two in time, one too late", three.setting(6), 2);
        WakeVillage y = Made.of("node a born 1 energy 1; node b born 2 energy 9; link a b;");
        y.send(0, 1, 1, false);
        y.tick(1);
        Check.equal("one is out", y.setting(8), 1);
        Check.equal("one is lost", y.setting(7), 1);
        Check.equal("none there", y.setting(5), 0);
    }

    private static void nodes() {
        WakeVillage x = Made.of(Made.CHAIN);
        x.send(0, 2, 20, false);
        x.send(0, 1, 20, true);
        Check.equal("a at 0", Made.nodeOf(x, 0), "1 0 50 0 0 2 0 0 0 2 2");
        Check.equal("b at 0", Made.nodeOf(x, 1), "3 2 40 2 0 5 0 0 0 3 0");
        Check.equal("c at 0", Made.nodeOf(x, 2), "5 0 30 0 0 2 0 0 0 2 0");
        x.tick(1);
        // the urgent one goes first: it costs 2 each, as both are awake
        Check.equal("a at 1", Made.nodeOf(x, 0), "1 0 47 1 1 2 1 1 0 2 1");
        Check.equal("b at 1", Made.nodeOf(x, 1), "3 2 37 3 1 5 1 0 1 3 0");
        Check.equal("c at 1", Made.nodeOf(x, 2), "5 0 30 1 0 2 0 0 0 2 0");
        x.tick(2);
        Check.equal("a at 3", Made.nodeOf(x, 0), "1 0 44 3 1 2 2 2 0 2 0");
        Check.equal("b at 3", Made.nodeOf(x, 1), "3 2 34 5 1 5 2 0 2 3 1");
        Check.equal("c at 3", Made.nodeOf(x, 2), "5 0 29 3 1 2 1 0 0 2 0");
        Check.argument("node what -1", () -> x.node(0, -1));
        Check.argument("node what 11", () -> x.node(0, 11));
        Check.range("node -1", () -> x.node(-1, 0));
        Check.range("node 3", () -> x.node(3, 0));
        Check.range("node first", () -> x.node(3, 11));
    }

    private static void links() {
        WakeVillage x = Made.of(Made.CHAIN);
        x.tick(9);
        Check.equal("link 0", Made.linkOf(x, 0), "0 1 1 2 1");
        Check.equal("link 1", Made.linkOf(x, 1), "1 2 1 1 2");
        x.tick(2);
        Check.equal("link 0 met", Made.linkOf(x, 0), "0 1 0 3 1");
        Check.equal("link 1 taken", Made.linkOf(x, 1), "1 2 0 1 3");
        Check.argument("link what -1", () -> x.link(0, -1));
        Check.argument("link what 5", () -> x.link(0, 5));
        Check.range("link -1", () -> x.link(-1, 0));
        Check.range("link 2", () -> x.link(2, 0));
        Check.range("link first", () -> x.link(2, 5));
        WakeVillage y = Made.of("node a born 1 energy 9; node b born 2 energy 9; link b a;");
        Check.equal("told first", Made.linkOf(y, 0), "1 0 0 0 0");
    }

    private static void messages() {
        WakeVillage x = Made.of(Made.CHAIN);
        x.tick(2);
        Check.equal("number 0", x.send(0, 2, 20, false), 0);
        Check.equal("number 1", x.send(2, 0, 30, true), 1);
        Check.equal("message 0", Made.messageOf(x, 0), "0 2 0 0 22 0 -1 0");
        Check.equal("message 1", Made.messageOf(x, 1), "2 0 2 0 32 1 -1 0");
        x.tick(1);
        // b has got the urgent one, so that it gets no other; and that one passes once in a tick
        Check.equal("message 0 waits", Made.messageOf(x, 0), "0 2 0 0 22 0 -1 0");
        Check.equal("message 1 passed", Made.messageOf(x, 1), "2 0 1 0 32 1 -1 1");
        x.tick(1);
        Check.equal("message 1 there", Made.messageOf(x, 1), "2 0 0 1 32 1 4 2");
        Check.argument("message what -1", () -> x.message(0, -1));
        Check.argument("message what 8", () -> x.message(0, 8));
        Check.range("message -1", () -> x.message(-1, 0));
        Check.range("message 2", () -> x.message(2, 0));
        Check.range("message first", () -> x.message(2, 8));
        WakeVillage y = Made.of("node a born 1 energy 1; node b born 2 energy 9; link a b;");
        y.send(0, 1, 7, false);
        y.tick(5);
        Check.equal("a lost one", Made.messageOf(y, 0), "0 1 0 2 7 0 -1 0");
    }

    private static void letters() {
        WakeVillage x = Made.of("node ab born 1 energy 5; node abcdefgz born 1 energy 5;");
        Check.equal("letter 0", x.letter(0, 0), (int) 'a');
        Check.equal("letter 1", x.letter(0, 1), (int) 'b');
        Check.equal("letter 2", x.letter(0, 2), 0);
        Check.equal("letter 7", x.letter(1, 7), (int) 'z');
        Check.equal("letter 8", x.letter(1, 8), 0);
        Check.equal("letter -1", x.letter(1, -1), 0);
        Check.equal("letter far", x.letter(1, Integer.MAX_VALUE), 0);
        Check.equal("letter far below", x.letter(1, Integer.MIN_VALUE), 0);
        Check.range("letter of -1", () -> x.letter(-1, 0));
        Check.range("letter of 2", () -> x.letter(2, 0));
    }

    private static void tables() {
        WakeVillage x = Made.of(Made.CHAIN);
        String[] due = {".+.+......", ".+.+.+....", "...+.+...."};
        for (int i = 0; i < 3; i++) {
            for (int day = 0; day < 10; day++) {
                Check.equal("table of " + i + " day " + day, x.inTable(i, day), due[i].charAt(day) == '+');
            }
        }
        x.watch(0, 9, true);
        Check.equal("a watched day", x.inTable(0, 9), true);
        Check.equal("watched by a alone", x.inTable(1, 9), false);
        x.setBorn(1, 8);
        Check.equal("another birthday", x.inTable(0, 8), true);
        Check.equal("not the one before", x.inTable(0, 3), false);
        Check.argument("day -1", () -> x.inTable(0, -1));
        Check.argument("day 10", () -> x.inTable(0, 10));
        Check.range("table of 3", () -> x.inTable(3, 0));
        Check.range("table of -1", () -> x.inTable(-1, 0));
        Check.range("table: node first", () -> x.inTable(3, 10));
        WakeVillage y = Made.of("year 60; node a born 59 energy 9; node b born 33 energy 9;");
        Check.equal("day 59", y.inTable(0, 59), true);
        Check.equal("day 27, not 59", y.inTable(0, 27), false);
        y.watch(1, 58, true);
        Check.equal("day 58", y.inTable(1, 58), true);
        Check.equal("day 1, not 33", y.inTable(1, 1), false);
        Check.equal("days of two", y.node(1, 9), 2);
    }

    private static void duty() {
        WakeVillage x = Made.of("year 7; node a born 1 energy 9; node b born 3 energy 9; link a b;");
        x.watch(0, 3, true);
        Check.equal("duty", x.duty(0), 2.0f / 7.0f);
        x.watch(0, 5, true);
        Check.equal("duty of three", x.duty(0), 3.0f / 7.0f);
        Check.range("duty of 2", () -> x.duty(2));
        Check.range("duty of -1", () -> x.duty(-1));
    }

    private static void means() {
        WakeVillage x = Made.of("node a born 1 energy 9; node b born 3 energy 5; node c born 3 energy 6;");
        Check.equal("mean", x.meanEnergy(), 20.0 / 3.0);
        Check.equal("mean of one", Made.of("node a born 1 energy 9;").meanEnergy(), 9.0);
        Check.equal("mean of 40", Made.of(Made.CHAIN).meanEnergy(), 40.0);
    }
}
