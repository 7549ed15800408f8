/** The promises 1 to 29, sentence by sentence: what is there, and what comes, at the edges. */
final class EdgePromiseTest {
    private static final int NONE = WakeVillage.NONE;

    private EdgePromiseTest() {
    }

    static void run() {
        newObject();
        feedAndTruncate();
        texts();
        errors();
        settings();
        nodes();
        messages();
        letters();
        dutyAndMean();
        awakeIn();
        meetsIn();
        worstLink();
        busiest();
        hops();
        nextNode();
        widest();
        arrives();
        wouldArrive();
        outIn();
        energyIn();
        takesIn();
        bestShift();
        bestWatch();
        bestWatchOfNoUse();
    }

    private static WakeVillage of(String text) {
        return Made.of("year 10;" + text);
    }

    /** Both are awake in 20, 80, 140, 200, 260, and one message passes each time; nothing costs. */
    private static WakeVillage rarely(String more) {
        return Made.of("year 60; costs 0 0 0;" + more + "node a born 20 energy 9; node b born 20 energy 9; link a b;");
    }

    private static void newObject() {
        WakeVillage x = new WakeVillage();
        Check.equal("as if an empty text was read", Made.allOf(x), Made.allOf(Made.of("")));
        Check.equal("with an empty buffer", Check.outcome(() -> x.truncate(1)), IllegalArgumentException.class.getName());
        Check.equal("nothing to undo", x.setting(10), 0);
        Check.equal("no error", x.errorCode() + " " + x.errorPosition(), "0 -1");
        Check.equal("no nodes: no wakes", x.awakeIn(99) + " " + x.busiest() + " " + x.widest(), "0 1 0");
        Check.equal("no links", x.worstLink() + " " + x.takesIn(), "-1 -1");
        Check.equal("0.0 without nodes", x.meanEnergy(), 0.0);
        Check.equal("time goes by without nodes", x.tick(99) + x.setting(3), 99);
        Check.equal("3 misses", x.setMiss(1), 3);
    }

    private static void feedAndTruncate() {
        WakeVillage x = new WakeVillage();
        Check.equal("truncate an empty buffer to 0", x.truncate(0), 0);
        Check.equal("the number of bytes", x.feed(0x6d697373, 0x20373b6d, 0x69737320, 0x383b2020, 0x20202020), 20);
        Check.equal("to the present length", x.truncate(20), 20);
        Check.equal("to 7", x.truncate(7), 7);
        Check.equal("appended behind them", x.feed(0x79656172, 0x20343b20, 0x20202020, 0x20202020, 0x20202020), 27);
        Check.equal("one less than the present length", x.truncate(26), 26);
        x.readText();
        Check.equal("what was left of the first, and the second", x.setMiss(1) * 100 + x.setting(2), 704);
        Check.equal("the buffer is empty then", x.feed(0x20202020, 0x20202020, 0x20202020, 0x20202020, 0x20202020), 20);
        Check.equal("to 0", x.truncate(0) + x.readText(), 0);
    }

    private static void texts() {
        WakeVillage x = Made.of(Made.CHAIN);
        x.send(0, 1, 9, true);
        x.watch(0, 9, true);
        x.setMiss(8);
        x.tick(9);
        x.save();
        int length = x.report();
        Made.feed(x, "");
        Check.equal("an empty text: no nodes", x.readText(), 0);
        Check.equal("it replaces all that there is", Made.allOf(x), Made.allOf(new WakeVillage()));
        Check.equal("misses, too", x.setMiss(3), 3);
        x.undo();
        Check.equal("what can be undone, too", x.undo(), NONE);
        Check.equal("not the latest report", x.reportByte(length - 1), 10);
        Check.equal("not what is saved", x.restore(), 9);
        Made.feed(x, Made.CHAIN);
        Check.equal("the number of nodes", x.readText(), 3);
        Check.equal("the time is 0, no messages, nothing is watched", Made.allOf(x), Made.allOf(Made.of(Made.CHAIN)));
    }

    private static void errors() {
        WakeVillage x = Made.of("node a born 1 energy 9;");
        Made.feed(x, "year 3;");
        Check.argument("a text with an error", () -> x.readText());
        Check.equal("its error", x.errorCode() + " " + x.errorPosition(), "2 5");
        Check.equal("an empty script", x.runScript(), 0);
        Check.equal("of the latest call: none", x.errorCode() + " " + x.errorPosition(), "0 -1");
        Made.feed(x, "tick 9; charge z 1;");
        Check.argument("a script with an error", () -> x.runScript());
        Check.equal("its error", x.errorCode() + " " + x.errorPosition(), "4 15");
        x.tick(1);
        x.undo();
        x.save();
        x.restore();
        x.feed(0x20202020, 0x20202020, 0x20202020, 0x20202020, 0x20202020);
        Check.state("a call that throws", () -> new WakeVillage().restore());
        Check.equal("it stays", x.errorCode() + " " + x.errorPosition(), "4 15");
        Check.equal("a text without an error", x.readText(), 0);
        Check.equal("none", x.errorCode() + " " + x.errorPosition(), "0 -1");
        Made.feed(x, "?");
        Check.argument("an error at byte 0", () -> x.readText());
        Check.equal("position 0 is not NONE", x.errorCode() + " " + x.errorPosition(), "1 0");
    }

    private static void settings() {
        WakeVillage x = of("costs 0 1 1; node a born 1 energy 99; node b born 1 energy 99; node c born 1 energy 1; link a b; link b c;");
        x.tick(10);
        x.send(0, 1, 1, false);
        x.send(0, 1, 10, false);
        x.send(0, 1, 21, false);
        x.send(0, 1, 30, false);
        x.send(0, 2, 30, false);
        x.tick(31);
        Check.equal("messages", x.setting(4), 5);
        Check.equal("there at 11, 21, 31 and 41", x.setting(5), 4);
        Check.equal("within 1 and 21, not within 10 and 30", x.setting(6), 2);
        Check.equal("none is lost", x.setting(7), 0);
        x.tick(20);
        Check.equal("c got it, and is out", x.setting(8), 2);
        Check.equal("it is there", x.setting(5), 5);
        Check.equal("not within its ticks", x.setting(6), 2);
        Check.equal("changes that can be undone: 6 of 8", x.setting(10), 6);
    }

    private static void nodes() {
        WakeVillage x = of("costs 0 1 1; node a born 1 energy 99; node b born 1 energy 99; node c born 1 energy 99; link a b; link b c;");
        Check.equal("links as a set: a", x.node(0, 5), 2);
        Check.equal("links as a set: b", x.node(1, 5), 5);
        Check.equal("no links: an empty set", of("node a born 1 energy 9;").node(0, 5), 0);
        x.send(0, 2, 9, false);
        x.send(0, 2, 9, false);
        Check.equal("both are at a", x.node(0, 10), 2);
        x.tick(1);
        Check.equal("one is at a, one at b", x.node(0, 10) * 10 + x.node(1, 10), 11);
        x.tick(10);
        Check.equal("one is there: it is at none, though at c", x.node(0, 10) * 100 + x.node(1, 10) * 10 + x.node(2, 10), 10);
        Check.equal("passed on", x.node(0, 7) * 100 + x.node(1, 7) * 10 + x.node(2, 7), 210);
        Check.equal("got", x.node(0, 8) * 100 + x.node(1, 8) * 10 + x.node(2, 8), 21);
        Check.equal("ticks awake", x.node(0, 6), 2);
        WakeVillage ten = Made.of("year 60;" + tenNodes(59));
        Check.equal("the tenth node, over nine links", ten.node(9, 5), 511);
        Check.equal("its table of ten days", ten.node(9, 9), 10);
        Check.equal("day 59 is in it", ten.inTable(9, 59), true);
    }

    /** The tenth has a link to each other one; birthdays go down from one. */
    private static String tenNodes(int born) {
        StringBuilder text = new StringBuilder();
        for (int i = 0; i < 10; i++) {
            text.append("node ").append((char) ('a' + i)).append(" born ").append(born - i).append(" energy 9;");
        }
        for (int i = 0; i < 9; i++) {
            text.append("link ").append((char) ('a' + i)).append(" j;");
        }
        return text.toString();
    }

    private static void messages() {
        WakeVillage x = rarely("");
        x.tick(9);
        x.send(0, 1, 11, false);
        Check.equal("NONE before it is there", x.message(0, 6), NONE);
        x.tick(10);
        Check.equal("not there at 19", x.message(0, 6) + x.message(0, 7), NONE);
        x.tick(1);
        Check.equal("when it was there", x.message(0, 6), 20);
        Check.equal("within its ticks", x.setting(6), 1);
        Check.equal("how often it passed", x.message(0, 7), 1);
        Check.equal("not urgent", x.message(0, 5), 0);
    }

    private static void letters() {
        WakeVillage x = Made.of("node abcdefgh born 1 energy 9; node z born 1 energy 9;");
        Check.equal("the first of 8", x.letter(0, 0), (int) 'a');
        Check.equal("the last of 8", x.letter(0, 7), (int) 'h');
        Check.equal("none behind 8", x.letter(0, 8), 0);
        Check.equal("the only one", x.letter(1, 0), (int) 'z');
        Check.equal("none behind it", x.letter(1, 1), 0);
        for (int i : new int[] {-1, -8, 9, 64, 256, Integer.MAX_VALUE, Integer.MIN_VALUE}) {
            Check.equal("any int: " + i, x.letter(0, i) + x.letter(1, i), 0);
        }
    }

    private static void dutyAndMean() {
        WakeVillage x = Made.of("year 4; node a born 0 energy 1; node b born 3 energy 2; link a b;");
        Check.equal("two of four", x.duty(0), 0.5f);
        x.watch(0, 1, true);
        x.watch(0, 2, true);
        Check.equal("all days", x.duty(0), 1.0f);
        Check.equal("one of 60 as a float", Made.of("year 60; node a born 7 energy 9;").duty(0), 1.0f / 60.0f);
        Check.equal("the mean is not rounded", x.meanEnergy(), 1.5);
        Check.equal("a third", of("node a born 1 energy 1;node b born 1 energy 1;node c born 1 energy 2;").meanEnergy(), 4.0 / 3.0);
        WakeVillage out = of("node a born 1 energy 1;");
        out.tick(1);
        Check.equal("all are out", out.meanEnergy(), 0.0);
    }

    private static void awakeIn() {
        WakeVillage x = of("node a born 0 energy 9; node b born 9 energy 9; node c born 0 shift 1 energy 9;");
        Check.equal("in 0", x.awakeIn(0), 1);
        Check.equal("in 9, with a shift over the year's end", x.awakeIn(9), 6);
        Check.equal("in 10, a year", x.awakeIn(10), 1);
        Check.equal("in 99", x.awakeIn(99), 6);
        WakeVillage ten = Made.of(tenNodes(9));
        Check.equal("all ten but one", ten.awakeIn(9), 1 | 512);
    }

    private static void meetsIn() {
        WakeVillage x = of("node a born 1 energy 9; node b born 1 energy 9; node c born 2 energy 9; link a c;");
        Check.equal("in 1", x.meetsIn(0, 1), 1);
        Check.equal("in 2, over a link", x.meetsIn(0, 2), 1);
        Check.equal("never", x.meetsIn(1, 2), 1);
        x.tick(1);
        Check.equal("in a year, as now is 0 ticks", x.meetsIn(0, 1), 10);
        Check.equal("a and c have day 2, too", x.meetsIn(0, 2), 1);
        Check.equal("the same", x.meetsIn(0, 0), NONE);
        WakeVillage y = of("node a born 1 energy 9; node b born 2 energy 9; node c born 1 energy 1;");
        Check.equal("none such", y.meetsIn(0, 1), NONE);
        y.tick(1);
        Check.equal("an out one wakes never", y.meetsIn(0, 2) + y.meetsIn(2, 0), NONE + NONE);
        WakeVillage long60 = rarely("");
        long60.tick(20);
        Check.equal("in a year of 60", long60.meetsIn(0, 1), 60);
        long60.tick(1);
        Check.equal("in 59", long60.meetsIn(0, 1), 59);
    }

    private static void worstLink() {
        String text = "node a born 1 energy 9; node b born 1 energy 9; node c born 4 shift 5 energy 9; node d born 4 shift 5 energy 9;";
        Check.equal("NONE without links", of(text).worstLink(), NONE);
        Check.equal("the only one", of(text + "link a b;").worstLink(), 0);
        // c and d wake at 9, a and b at 1; b and c have days 1 and 4: b at 1 4, c at 6 9
        Check.equal("the latest", of(text + "link a b; link c d;").worstLink(), 1);
        Check.equal("never is latest", of(text + "link a b; link c d; link b c;").worstLink(), 2);
        Check.equal("the lowest of several never", of(text + "link b c; link a d;").worstLink(), 0);
        Check.equal("the lowest of several alike", of("node a born 1 energy 9;node b born 1 energy 9;node c born 1 energy 9;"
                + "link a b; link b c;").worstLink(), 0);
    }

    private static void busiest() {
        WakeVillage x = of("node a born 1 energy 9; node b born 0 energy 9;");
        Check.equal("the least one of several", x.busiest(), 1);
        x.tick(1);
        Check.equal("9 before 10", x.busiest(), 9);
        WakeVillage one = of("node a born 0 energy 9;");
        Check.equal("in a year", one.busiest(), 10);
        Check.equal("two before one", of("node a born 1 energy 9; node b born 0 energy 9; node c born 0 energy 9;").busiest(), 10);
        WakeVillage out = of("node a born 5 energy 1;");
        out.tick(5);
        Check.equal("none ever: the least", out.busiest(), 1);
    }

    private static void hops() {
        WakeVillage x = of("node a born 1 energy 9; node b born 2 energy 1; node c born 3 energy 9; node d born 3 energy 9; link a b; link b c;");
        Check.equal("0 if they are the same", x.hops(0, 0), 0);
        Check.equal("1", x.hops(0, 1), 1);
        Check.equal("2", x.hops(2, 0), 2);
        Check.equal("no way", x.hops(0, 3), NONE);
        x.tick(2);
        Check.equal("no way over an out node", x.hops(0, 2), NONE);
        Check.equal("the first is out", x.hops(1, 0), NONE);
        Check.equal("the other is out", x.hops(0, 1), NONE);
        Check.equal("the same, and out", x.hops(1, 1), NONE);
        x.charge(1, 1);
        Check.equal("charged", x.hops(0, 2), 2);
    }

    private static void nextNode() {
        WakeVillage x = of("node a born 1 energy 9; node b born 2 energy 1; node c born 3 energy 9; node d born 3 energy 9; link a b; link b c;");
        Check.equal("both are the same", x.nextNode(1, 1), NONE);
        Check.equal("the goal itself", x.nextNode(0, 1), 1);
        Check.equal("on the way", x.nextNode(0, 2), 1);
        Check.equal("there is none such", x.nextNode(0, 3), NONE);
        x.tick(2);
        Check.equal("the first is out", x.nextNode(1, 0), NONE);
        Check.equal("the goal is out", x.nextNode(0, 1), NONE);
        Check.equal("the way is out", x.nextNode(0, 2), NONE);
    }

    private static void widest() {
        Check.equal("no nodes", new WakeVillage().widest(), 0);
        Check.equal("one node", of("node a born 1 energy 9;").widest(), 0);
        Check.equal("one link", of("node a born 1 energy 9;node b born 1 energy 9;link a b;").widest(), 1);
        WakeVillage x = of("node a born 1 energy 1; node b born 2 energy 9; node c born 3 energy 9; node d born 3 energy 9;"
                + "link a b; link b c; link c d;");
        Check.equal("a row of four", x.widest(), 3);
        x.tick(1);
        Check.equal("a row of three, as a is out", x.widest(), 2);
    }

    private static void arrives() {
        WakeVillage x = rarely("");
        for (int i = 0; i < 5; i++) {
            x.send(0, 1, 9, false);
        }
        Check.equal("in 20", x.arrives(0), 20);
        Check.equal("in just 200 ticks", x.arrives(3), 200);
        Check.equal("in 260: not within 200", x.arrives(4), NONE);
        x.setShift(0, 1);
        x.setShift(1, 1);
        Check.equal("in 199", x.arrives(3), 199);
        x.setShift(0, 59);
        x.setShift(1, 59);
        Check.equal("in 201: not within 200", x.arrives(3), NONE);
        x.tick(21);
        Check.equal("0 if it is there", x.arrives(0), 0);
        Check.equal("the fourth then", x.arrives(3), 180);
        Check.equal("nothing changes by asking", x.setting(3) * 10 + x.setting(5), 211);
        WakeVillage lost = of("node a born 1 energy 1; node b born 2 energy 9; link a b;");
        lost.send(0, 1, 9, false);
        Check.equal("it will be lost", lost.arrives(0), NONE);
        lost.tick(1);
        Check.equal("it is lost", lost.arrives(0), NONE);
    }

    private static void wouldArrive() {
        WakeVillage x = rarely("");
        Check.equal("in 20", x.wouldArrive(0, 1, false), 20);
        Check.equal("urgent: in 1", x.wouldArrive(0, 1, true), 1);
        for (int i = 0; i < 3; i++) {
            x.send(0, 1, 9, false);
        }
        Check.equal("in just 200 ticks", x.wouldArrive(0, 1, false), 200);
        x.send(0, 1, 9, false);
        Check.equal("in 260: not within 200", x.wouldArrive(0, 1, false), NONE);
        x.undo();
        x.setShift(0, 59);
        x.setShift(1, 59);
        Check.equal("in 201: not within 200", x.wouldArrive(0, 1, false), NONE);
        WakeVillage full = rarely("");
        for (int i = 0; i < 60; i++) {
            full.send(1, 0, 9, true);
        }
        Check.equal("whether there is room for it or not", full.wouldArrive(0, 1, false), 20);
        Check.equal("it waits for the 60 before it", full.wouldArrive(1, 0, true), 61);
        Check.equal("it was not sent", full.setting(4), 60);
        WakeVillage out = of("costs 1 0 0; node a born 1 energy 1; node b born 5 energy 9; node c born 5 energy 9; link a b;");
        Check.equal("no way", out.wouldArrive(1, 2, true), NONE);
        out.tick(1);
        Check.equal("the first is out", out.wouldArrive(0, 1, true), NONE);
        Check.equal("the other is out", out.wouldArrive(1, 0, true), NONE);
    }

    private static void outIn() {
        // awake each 10 ticks
        WakeVillage x = of("node a born 0 energy 20; node b born 0 energy 21; node c born 1 energy 20; node d born 9 energy 20;"
                + "node e born 1 energy 1;");
        Check.equal("in just 200", x.outIn(0), 200);
        Check.equal("in 210: not within 200", x.outIn(1), NONE);
        Check.equal("in 191", x.outIn(2), 191);
        Check.equal("in 1", x.outIn(4), 1);
        x.charge(2, 1);
        Check.equal("in 201: not within 200", x.outIn(2), NONE);
        x.tick(1);
        Check.equal("0 if it is", x.outIn(4), 0);
        Check.equal("in just 200 from 1", x.outIn(2), 200);
    }

    private static void energyIn() {
        WakeVillage x = of("node a born 0 energy 20; node b born 0 energy 21; node c born 1 energy 20;");
        Check.equal("behind 0", x.energyIn(0, 0), 20);
        Check.equal("behind 1", x.energyIn(2, 1), 19);
        Check.equal("behind 199", x.energyIn(0, 199), 1);
        Check.equal("behind 200", x.energyIn(0, 200), 0);
        Check.equal("behind 200, one more", x.energyIn(1, 200), 1);
        x.tick(10);
        Check.equal("not below 0", x.energyIn(0, 200), 0);
    }

    private static void takesIn() {
        // one of both wakes each 25 ticks, and misses: at 1, 26, 51, ... 176, 201
        String text = "year 50; costs 0 1 1; miss %; node a born 1 energy 9; node b born 1 shift 25 energy 9; link a b;";
        Check.equal("in 1", Made.of(text.replace("%", "1")).takesIn(), 1);
        Check.equal("in 176", Made.of(text.replace("%", "8")).takesIn(), 176);
        WakeVillage x = Made.of(text.replace("%", "9"));
        Check.equal("in 201: not within 200", x.takesIn(), NONE);
        x.tick(1);
        Check.equal("in just 200", x.takesIn(), 200);
        x.tick(99);
        Check.equal("the next one, in 101", x.takesIn(), 101);
        Check.equal("no links", of("node a born 1 energy 9;").takesIn(), NONE);
    }

    private static void bestShift() {
        Check.equal("NONE without links", of("node a born 1 energy 9; node b born 1 energy 9;").bestShift(0), NONE);
        String pair = "node a born % energy 9; node b born % shift # energy 9; link a b;";
        for (int shift = 0; shift < 10; shift++) {
            WakeVillage x = of(pair.replace("%", "4").replace("#", String.valueOf(shift)));
            Check.equal("the shift of the other one: " + shift, x.bestShift(0), shift);
            Check.equal("its own shift does not count: " + shift, x.bestShift(1), 0);
        }
        WakeVillage several = of("node a born 1 energy 9; node b born 3 energy 9; link a b;");
        // b is awake in 1 and 3: in 1 with day 1 (shift 0) or 3 (shift 2)
        Check.equal("the lowest one of several", several.bestShift(0), 0);
        several.setShift(0, 2);
        Check.equal("the lowest one of several, not its own", several.bestShift(0), 0);
        // b wakes in 1, c in 2; a meets both by shift 0 in 1 and 2
        WakeVillage two = of("node a born 5 energy 9; node b born 5 shift 4 energy 9; node c born 6 shift 4 energy 9; link a b; link a c;");
        Check.equal("the greatest of both is the least", two.bestShift(0), 4);
        WakeVillage out = of("node a born 1 energy 1; node b born 1 energy 9; node c born 1 energy 9; link a b; link b c;");
        out.setShift(2, 4);
        out.tick(1);
        Check.equal("of a node that is out: never by each, the lowest", out.bestShift(0), 0);
        Check.equal("with an out one: never by each, the lowest", out.bestShift(1), 0);
        Check.equal("never is more than any: not with an out one", out.bestShift(2) == NONE, false);
    }

    private static void bestWatch() {
        // both wake in 9 alone, on day 0; b watches days 3 and 5 of its clock, in 2 and 4
        WakeVillage x = of("costs 0 0 0; node a born 0 shift 1 energy 9; node b born 0 shift 1 energy 9; link a b;");
        Check.equal("it would not be sooner", x.bestWatch(0, 1), NONE);
        x.watch(1, 5, true);
        Check.equal("day 5", x.bestWatch(0, 1), 5);
        x.watch(1, 3, true);
        Check.equal("day 3 is sooner", x.bestWatch(0, 1), 3);
        x.watch(0, 3, true);
        Check.equal("watched already: not sooner", x.bestWatch(0, 1), NONE);
        Check.equal("nothing changes by asking", x.node(0, 9), 2);
        WakeVillage first = of("costs 0 0 0; node a born 5 energy 9; node b born 5 energy 9; link a b;");
        first.tick(9);
        first.watch(1, 0, true);
        Check.equal("day 0", first.bestWatch(0, 1), 0);
        first.undo();
        first.watch(1, 9, true);
        Check.equal("day 9 is later than 5", first.bestWatch(0, 1), NONE);
        first.tick(7);
        Check.equal("day 9", first.bestWatch(0, 1), 9);
        // c wakes on 7; b passes what comes by then, so that days 2 and 3 are as good
        WakeVillage several = of("costs 0 0 0; node a born 9 energy 9; node b born 7 energy 9; node c born 7 energy 9; link a b; link b c;");
        several.watch(1, 2, true);
        several.watch(1, 3, true);
        Check.equal("b to c in 7 by each", several.wouldArrive(1, 2, false), 7);
        Check.equal("the lowest one of several", several.bestWatch(0, 2), 2);
    }

    private static void bestWatchOfNoUse() {
        // they never meet: a is awake in 20, b in 22, each 60; 9 misses are more than come in 200
        WakeVillage never = Made.of("year 60; costs 0 0 0; miss 9; node a born 22 shift 2 energy 9; node b born 22 energy 9; link a b;");
        Check.equal("never without", never.wouldArrive(0, 1, false), NONE);
        Check.equal("day 24, in 22", never.bestWatch(0, 1), 24);
        for (int i = 0; i < 3; i++) {
            never.send(0, 1, 9, false);
        }
        Check.equal("the fourth one, in 202: not within 200", never.bestWatch(0, 1), NONE);
        never.tick(2);
        Check.equal("the fourth one, in just 200", never.bestWatch(0, 1), 24);
        WakeVillage out = of("node a born 1 energy 1; node b born 5 energy 9; link a b;");
        out.tick(1);
        Check.equal("from an out one: never", out.bestWatch(0, 1), NONE);
        Check.equal("to an out one: never", out.bestWatch(1, 0), NONE);
        Check.equal("no way", of("node a born 1 energy 9; node b born 5 energy 9;").bestWatch(0, 1), NONE);
    }
}
