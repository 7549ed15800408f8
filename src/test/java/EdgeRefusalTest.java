/** Each call that the document refuses: which exception, in which order, and that nothing changes by it. */
final class EdgeRefusalTest {
    private static final int FAR = Integer.MAX_VALUE;
    private static final int FAR_BELOW = Integer.MIN_VALUE;
    private static final Class<? extends Exception> RANGE = IndexOutOfBoundsException.class;
    private static final Class<? extends Exception> ARGUMENT = IllegalArgumentException.class;
    private static final Class<? extends Exception> STATE = IllegalStateException.class;

    /** A call of which one argument is told. */
    private interface Call {
        Object with(int n) throws Exception;
    }

    private static int bytesFed;

    private EdgeRefusalTest() {
    }

    static void run() {
        buffer();
        numbersOfNodes();
        numbersOfOtherNodes();
        numbersOfLinksAndMessages();
        whats();
        daysOfTheYear();
        ticksAhead();
        changesOutOfRange();
        sameNodes();
        reportBytes();
        thingsThatCannotBe();
        theFirstListed();
        textsAndScripts();
        nothingThere();
    }

    /** Three nodes, two links, three messages; 40 bytes in the buffer, an error, a report, changes, one saved. */
    private static WakeVillage lively() {
        WakeVillage x = Made.of(Made.CHAIN);
        x.save();
        x.tick(3);
        x.send(0, 2, 20, false);
        x.send(2, 0, 20, true);
        x.send(1, 2, 20, true);
        x.tick(1);
        x.report();
        Made.feed(x, "tick 9; foo");
        Check.argument("an error", () -> x.runScript());
        Made.feed(x, "tick 4; tick 5; tick 6; tick 7;         ");
        bytesFed = 40;
        return x;
    }

    private static String everythingOf(WakeVillage x) {
        return allButTheErrorOf(x) + " " + x.errorCode() + " " + x.errorPosition();
    }

    private static String allButTheErrorOf(WakeVillage x) {
        StringBuilder text = new StringBuilder(Made.allOf(x));
        text.append('\n').append(x.setting(10));
        text.append(' ').append(Check.outcome(() -> x.truncate(bytesFed)));
        text.append(' ').append(Check.outcome(() -> x.truncate(bytesFed + 1))).append('\n');
        return text.append(reportOf(x)).toString();
    }

    /** The bytes of the latest report, which is not written anew. */
    private static String reportOf(WakeVillage x) {
        StringBuilder text = new StringBuilder();
        for (int i = 0; i <= 600; i++) {
            int at = i;
            String outcome = Check.outcome(() -> x.reportByte(at));
            if (!outcome.matches("[0-9]+")) {
                return text.append(i).append(' ').append(outcome).toString();
            }
            text.append((char) Integer.parseInt(outcome));
        }
        return text.toString();
    }

    private static void refused(WakeVillage x, String sentence, Class<? extends Exception> due, Call call, int... wrong) {
        for (int n : wrong) {
            String before = everythingOf(x);
            Check.throwing(sentence + ": " + n, due, () -> call.with(n));
            Check.equal(sentence + ": " + n + " changes nothing", everythingOf(x), before);
        }
    }

    private static void buffer() {
        WakeVillage x = lively();
        refused(x, "truncate to n negative", ARGUMENT, n -> x.truncate(n), -1, FAR_BELOW);
        refused(x, "truncate to n greater than the present length", ARGUMENT, n -> x.truncate(n), 41, 600, 601, FAR);
        Check.equal("the bytes are as they were", x.runScript(), 4);
        WakeVillage full = lively();
        for (int length = 60; length <= 600; length += 20) {
            Check.equal("feed to " + length, full.feed(0x20202020, 0x20202020, 0x20202020, 0x20202020, 0x20202020), length);
        }
        bytesFed = 600;
        refused(full, "feed that would exceed 600", STATE, n -> full.feed(n, n, n, n, n), 0, -1, FAR);
        full.truncate(581);
        bytesFed = 581;
        refused(full, "feed from 581", STATE, n -> full.feed(n, n, n, n, n), 0, 0x3f3f3f3f);
        full.truncate(580);
        Check.equal("feed from 580", full.feed(0x20202020, 0x20202020, 0x20202020, 0x20202020, 0x20202020), 600);
        Check.equal("600 bytes, as they were fed", full.runScript(), 4);
    }

    private static void numbersOfNodes() {
        WakeVillage x = lively();
        int[] none = {-1, 3, 10, FAR, FAR_BELOW};
        refused(x, "node()", RANGE, n -> x.node(n, 0), none);
        refused(x, "letter()", RANGE, n -> x.letter(n, 0), none);
        refused(x, "inTable()", RANGE, n -> x.inTable(n, 0), none);
        refused(x, "duty()", RANGE, n -> x.duty(n), none);
        refused(x, "meetsIn()", RANGE, n -> x.meetsIn(n, 0), none);
        refused(x, "hops()", RANGE, n -> x.hops(n, 0), none);
        refused(x, "nextNode()", RANGE, n -> x.nextNode(n, 0), none);
        refused(x, "wouldArrive()", RANGE, n -> x.wouldArrive(n, 0, true), none);
        refused(x, "outIn()", RANGE, n -> x.outIn(n), none);
        refused(x, "energyIn()", RANGE, n -> x.energyIn(n, 0), none);
        refused(x, "bestShift()", RANGE, n -> x.bestShift(n), none);
        refused(x, "bestWatch()", RANGE, n -> x.bestWatch(n, 0), none);
        refused(x, "send()", RANGE, n -> x.send(n, 0, 1, true), none);
        refused(x, "setShift()", RANGE, n -> x.setShift(n, 0), none);
        refused(x, "watch()", RANGE, n -> x.watch(n, 0, true), none);
        refused(x, "setBorn()", RANGE, n -> x.setBorn(n, 0), none);
        refused(x, "charge()", RANGE, n -> x.charge(n, 1), none);
    }

    private static void numbersOfOtherNodes() {
        WakeVillage x = lively();
        int[] none = {-1, 3, 10, FAR, FAR_BELOW};
        refused(x, "meetsIn() with", RANGE, n -> x.meetsIn(0, n), none);
        refused(x, "hops() to", RANGE, n -> x.hops(0, n), none);
        refused(x, "nextNode() to", RANGE, n -> x.nextNode(0, n), none);
        refused(x, "wouldArrive() at", RANGE, n -> x.wouldArrive(0, n, false), none);
        refused(x, "bestWatch() to", RANGE, n -> x.bestWatch(0, n), none);
        refused(x, "send() to", RANGE, n -> x.send(0, n, 1, false), none);
        refused(x, "meetsIn() of the same that is none", RANGE, n -> x.meetsIn(n, n), none);
        refused(x, "hops() of the same that is none", RANGE, n -> x.hops(n, n), none);
        refused(x, "nextNode() of the same that is none", RANGE, n -> x.nextNode(n, n), none);
    }

    private static void numbersOfLinksAndMessages() {
        WakeVillage x = lively();
        refused(x, "link()", RANGE, n -> x.link(n, 0), -1, 2, 16, FAR, FAR_BELOW);
        refused(x, "message()", RANGE, n -> x.message(n, 0), -1, 3, 60, 61, FAR, FAR_BELOW);
        refused(x, "arrives()", RANGE, n -> x.arrives(n), -1, 3, 60, 61, FAR, FAR_BELOW);
        Check.equal("the last link", x.link(1, 0), 1);
        Check.equal("the last message", x.message(2, 0), 1);
    }

    private static void whats() {
        WakeVillage x = lively();
        refused(x, "setting() of what", ARGUMENT, what -> x.setting(what), -1, 11, FAR, FAR_BELOW);
        refused(x, "node() of what", ARGUMENT, what -> x.node(2, what), -1, 11, FAR, FAR_BELOW);
        refused(x, "link() of what", ARGUMENT, what -> x.link(1, what), -1, 5, FAR, FAR_BELOW);
        refused(x, "message() of what", ARGUMENT, what -> x.message(2, what), -1, 8, FAR, FAR_BELOW);
    }

    private static void daysOfTheYear() {
        WakeVillage x = lively();
        int[] none = {-1, 10, 60, 64, FAR, FAR_BELOW};
        refused(x, "inTable() of a day", ARGUMENT, day -> x.inTable(0, day), none);
        refused(x, "setShift() to", ARGUMENT, day -> x.setShift(0, day), none);
        refused(x, "watch() on of a day", ARGUMENT, day -> x.watch(0, day, true), none);
        refused(x, "watch() off of a day", ARGUMENT, day -> x.watch(0, day, false), none);
        refused(x, "setBorn() to", ARGUMENT, day -> x.setBorn(0, day), none);
        for (int year : new int[] {4, 12, 60}) {
            WakeVillage y = Made.of("year " + year + "; node a born 1 energy 9;");
            int last = year - 1;
            bytesFed = 0;
            refused(y, "inTable() in a year of " + year, ARGUMENT, day -> y.inTable(0, day), year, -1);
            refused(y, "setShift() in a year of " + year, ARGUMENT, day -> y.setShift(0, day), year, -1);
            refused(y, "watch() in a year of " + year, ARGUMENT, day -> y.watch(0, day, true), year, -1);
            refused(y, "setBorn() in a year of " + year, ARGUMENT, day -> y.setBorn(0, day), year, -1);
            Check.equal("the last day", y.inTable(0, last), false);
            Check.equal("watch the last day", y.watch(0, last, true), true);
            Check.equal("it is in the table", y.inTable(0, last), true);
            Check.equal("shift to the last day", y.setShift(0, last), 0);
            Check.equal("its day", y.node(0, 3), last);
            Check.equal("born on the last day", y.setBorn(0, last), 1);
            Check.equal("shift to 0", y.setShift(0, 0), last);
            Check.equal("born on 0", y.setBorn(0, 0), last);
            Check.equal("day 0 is in the table", y.inTable(0, 0), true);
        }
    }

    private static void ticksAhead() {
        WakeVillage x = lively();
        refused(x, "awakeIn()", ARGUMENT, ticks -> x.awakeIn(ticks), -1, 100, FAR, FAR_BELOW);
        refused(x, "energyIn()", ARGUMENT, ticks -> x.energyIn(0, ticks), -1, 201, FAR, FAR_BELOW);
        refused(x, "tick()", ARGUMENT, ticks -> x.tick(ticks), 0, -1, 100, FAR, FAR_BELOW);
    }

    private static void changesOutOfRange() {
        WakeVillage x = lively();
        refused(x, "send() within", ARGUMENT, within -> x.send(0, 1, within, true), 0, -1, 1000, FAR, FAR_BELOW);
        refused(x, "charge() by", ARGUMENT, by -> x.charge(0, by), 0, -1, 1000, FAR, FAR_BELOW);
        refused(x, "setMiss() to", ARGUMENT, many -> x.setMiss(many), 0, -1, 10, FAR, FAR_BELOW);
    }

    private static void sameNodes() {
        WakeVillage x = lively();
        refused(x, "wouldArrive() at the same", ARGUMENT, n -> x.wouldArrive(n, n, true), 0, 1, 2);
        refused(x, "bestWatch() to the same", ARGUMENT, n -> x.bestWatch(n, n), 0, 1, 2);
        refused(x, "send() to the same", ARGUMENT, n -> x.send(n, n, 5, true), 0, 1, 2);
    }

    private static void reportBytes() {
        WakeVillage x = lively();
        int length = x.report();
        refused(x, "reportByte() of no such byte", RANGE, i -> x.reportByte(i), -1, length, 600, FAR, FAR_BELOW);
        Check.equal("the last byte", x.reportByte(length - 1), 10);
        WakeVillage none = Made.of(Made.CHAIN);
        bytesFed = 0;
        refused(none, "reportByte() without a report", RANGE, i -> none.reportByte(i), 0, -1, FAR);
        WakeVillage empty = new WakeVillage();
        Check.equal("a report of no nodes", empty.report(), 0);
        refused(empty, "reportByte() of a report of no bytes", RANGE, i -> empty.reportByte(i), 0, -1, FAR);
    }

    private static void thingsThatCannotBe() {
        WakeVillage late = new WakeVillage();
        for (int i = 0; i < 101; i++) {
            late.tick(99);
        }
        bytesFed = 0;
        refused(late, "the time would be above 9999", STATE, ticks -> late.tick(ticks), 1, 2, 99);
        late.undo();
        Check.equal("9900", late.setting(3), 9900);
        Check.equal("to 9998", late.tick(98), 0);
        refused(late, "the time would be 10000", STATE, ticks -> late.tick(ticks), 2);
        Check.equal("to 9999", late.tick(1) + late.setting(3), 9999);
        WakeVillage out = Made.of("node a born 1 energy 1; node b born 5 energy 9; node c born 1 energy 1;");
        out.tick(1);
        refused(out, "send() from an out node", STATE, n -> out.send(n, 1, 5, true), 0, 2);
        refused(out, "send() to an out node", STATE, n -> out.send(1, n, 5, false), 0, 2);
        refused(out, "send() of two out nodes", STATE, n -> out.send(n, 2 - n, 5, false), 0, 2);
        WakeVillage full = Made.of(Made.CHAIN);
        for (int i = 0; i < 60; i++) {
            Check.equal("message " + i, full.send(i % 3, (i + 1) % 3, 999, i % 2 == 0), i);
        }
        refused(full, "60 were sent", STATE, n -> full.send(n, (n + 1) % 3, 5, true), 0, 1, 2);
        WakeVillage fresh = Made.of(Made.CHAIN);
        refused(fresh, "nothing was saved", STATE, n -> fresh.restore(), 0);
    }

    private static void theFirstListed() {
        WakeVillage x = lively();
        refused(x, "node(): no node before no what", RANGE, n -> x.node(3, n), -1, 11);
        refused(x, "link(): no link before no what", RANGE, n -> x.link(2, n), -1, 5);
        refused(x, "message(): no message before no what", RANGE, n -> x.message(3, n), -1, 8);
        refused(x, "inTable(): no node before no day", RANGE, n -> x.inTable(3, n), -1, 10);
        refused(x, "wouldArrive(): no node before the same", RANGE, n -> x.wouldArrive(n, n, true), -1, 3);
        refused(x, "bestWatch(): no node before the same", RANGE, n -> x.bestWatch(n, n), -1, 3);
        refused(x, "energyIn(): no node before ticks", RANGE, n -> x.energyIn(3, n), -1, 201);
        refused(x, "send(): no node before the same", RANGE, n -> x.send(n, n, 5, true), -1, 3);
        refused(x, "send(): no node before within", RANGE, n -> x.send(0, 3, n, true), 0, 1000);
        refused(x, "setShift(): no node before no shift", RANGE, n -> x.setShift(3, n), -1, 10);
        refused(x, "watch(): no node before no day", RANGE, n -> x.watch(3, n, true), -1, 10);
        refused(x, "setBorn(): no node before no day", RANGE, n -> x.setBorn(3, n), -1, 10);
        refused(x, "charge(): no node before by", RANGE, n -> x.charge(3, n), 0, 1000);
        WakeVillage late = new WakeVillage();
        for (int i = 0; i < 101; i++) {
            late.tick(99);
        }
        bytesFed = 0;
        refused(late, "tick(): out of range before too late", ARGUMENT, n -> late.tick(n), 0, 100, FAR);
        WakeVillage out = Made.of("node a born 1 energy 1; node b born 5 energy 9;");
        for (int i = 0; i < 60; i++) {
            out.send(0, 1, 5, true);
        }
        out.tick(1);
        refused(out, "send(): no node before out and 60", RANGE, n -> out.send(0, n, 5, true), -1, 2);
        refused(out, "send(): the same before out and 60", ARGUMENT, n -> out.send(n, n, 5, true), 0, 1);
        refused(out, "send(): within before out and 60", ARGUMENT, n -> out.send(0, 1, n, true), 0, 1000);
        refused(out, "send(): out and 60", STATE, n -> out.send(n, 1 - n, 5, true), 0, 1);
        refused(out, "wouldArrive(): the same, also if it is out", ARGUMENT, n -> out.wouldArrive(n, n, true), 0);
        refused(out, "bestWatch(): the same, also if it is out", ARGUMENT, n -> out.bestWatch(n, n), 0);
    }

    /** Of these, the buffer and the error do change. */
    private static void textsAndScripts() {
        String[] wrong = {"year 3;", "node a born 1 energy 5; node b born 1 energy 5; link a b", "?", "foo 1;"};
        for (String text : wrong) {
            WakeVillage x = lively();
            x.truncate(0);
            bytesFed = 0;
            String before = allButTheErrorOf(x);
            Made.feed(x, text);
            Check.argument("readText() of " + text, () -> x.readText());
            Check.equal("only the buffer and the error change: " + text, allButTheErrorOf(x), before);
            Check.equal("the buffer is empty: " + text, Check.outcome(() -> x.truncate(1)), ARGUMENT.getName());
            Made.feed(x, "tick 1; charge a 5; " + text);
            Check.argument("runScript() of " + text, () -> x.runScript());
            Check.equal("only the buffer and the error change: " + text, allButTheErrorOf(x), before);
            Check.equal("the buffer is empty: " + text, Check.outcome(() -> x.truncate(1)), ARGUMENT.getName());
            Check.equal("what is saved stays: " + text, x.restore(), 0);
        }
    }

    /** Without any node, no number is that of an existing one. */
    private static void nothingThere() {
        WakeVillage x = new WakeVillage();
        bytesFed = 0;
        refused(x, "no node", RANGE, n -> x.node(n, 0), 0, -1);
        refused(x, "no link", RANGE, n -> x.link(n, 0), 0, -1);
        refused(x, "no message", RANGE, n -> x.message(n, 0), 0, -1);
        refused(x, "no message to arrive", RANGE, n -> x.arrives(n), 0, -1);
        refused(x, "no letter", RANGE, n -> x.letter(n, 0), 0, -1);
        refused(x, "no table", RANGE, n -> x.inTable(n, 0), 0, -1);
        refused(x, "no duty", RANGE, n -> x.duty(n), 0, -1);
        refused(x, "no shift", RANGE, n -> x.bestShift(n), 0, -1);
        refused(x, "none to charge", RANGE, n -> x.charge(n, 1), 0, -1);
        refused(x, "none to send", RANGE, n -> x.send(n, n + 1, 1, true), 0, -1);
        WakeVillage links = Made.of("node a born 1 energy 5; node b born 1 energy 5;");
        refused(links, "nodes, but no link", RANGE, n -> links.link(n, 0), 0, -1);
        refused(links, "nodes, but no message", RANGE, n -> links.message(n, 0), 0, -1);
    }
}
