/** Terms 2 to 4 of the document, sentence by sentence: days, tables, ways and a tick at their edges. */
final class EdgeTickTest {
    private EdgeTickTest() {
    }

    static void run() {
        days();
        tables();
        outAndAwake();
        messages();
        nextNodes();
        wakes();
        awakeWhateverComesThen();
        met();
        missed();
        missesStay();
        shiftsTaken();
        takenAsItIsThen();
        urgentFirstByNumber();
        oneOnOneGot();
        bothAwakeOrUrgent();
        theEnergyThatItCosts();
        outByPassing();
        thereAtItsGoal();
        lost();
    }

    private static WakeVillage of(String text) {
        return Made.of("year 10;" + text);
    }

    private static void days() {
        WakeVillage x = of("node a born 0 energy 9; node b born 0 shift 9 energy 9; node c born 0 shift 1 energy 9;");
        Check.equal("the time is 0 at first", x.setting(3), 0);
        int[] dueOfB = {9, 0, 1, 2, 3, 4, 5, 6, 7, 8, 9, 0};
        for (int time = 0; time < 12; time++) {
            Check.equal("the day of a at " + time, x.node(0, 3), time % 10);
            Check.equal("the day of b at " + time, x.node(1, 3), dueOfB[time]);
            Check.equal("the day of c at " + time, x.node(2, 3), (time + 1) % 10);
            x.tick(1);
        }
        WakeVillage four = Made.of("year 4; node a born 0 shift 3 energy 9;");
        Check.equal("day 3 of a year of 4", four.node(0, 3), 3);
        four.tick(1);
        Check.equal("day 0 behind it", four.node(0, 3), 0);
        WakeVillage sixty = Made.of("year 60; node a born 0 shift 59 energy 9;");
        sixty.tick(60);
        Check.equal("day 59 of a year of 60, a year later", sixty.node(0, 3), 59);
    }

    private static void tables() {
        WakeVillage x = of("node a born 0 energy 9; node b born 9 energy 9; node c born 5 energy 9; node d born 0 energy 9;"
                + "link a b; link b c; link d b;");
        x.watch(0, 8, true);
        Check.equal("own birthday, day 0", x.inTable(0, 0), true);
        Check.equal("a birthday over a link, day 9", x.inTable(0, 9), true);
        Check.equal("not over two links", x.inTable(0, 5), false);
        Check.equal("a watched day", x.inTable(0, 8), true);
        Check.equal("not what another one watches", x.inTable(1, 8), false);
        Check.equal("a day told twice counts once", x.node(1, 9), 3);
        Check.equal("a node alone has its birthday", of("node a born 3 energy 9;").node(0, 9), 1);
        x.watch(0, 9, true);
        Check.equal("a watched day that is in the table counts once", x.node(0, 9), 3);
    }

    private static void outAndAwake() {
        WakeVillage x = of("node a born 1 energy 1; node b born 1 energy 2; node c born 2 energy 9;");
        x.tick(1);
        Check.equal("out at energy 0", x.node(0, 2) + x.node(0, 4) * 10, 0);
        Check.equal("not out at energy 1", x.node(1, 2) + x.node(1, 4) * 10, 11);
        Check.equal("not awake on another day", x.node(2, 4), 0);
        x.tick(10);
        Check.equal("it stays out", x.setting(8), 1);
        x.charge(0, 1);
        Check.equal("until it is charged", x.setting(8), 2);
        Check.equal("and is awake by its day at once", x.node(0, 4), 1);
    }

    private static void messages() {
        WakeVillage x = of("costs 0 1 1; node a born 1 energy 99; node b born 1 energy 99; node c born 5 energy 1; link a b; link b c;");
        for (int i = 0; i < 60; i++) {
            Check.equal("numbered from 0 as they are sent", x.send(i % 2, 1 - i % 2, 9, false), i);
        }
        Check.state("at most 60", () -> x.send(0, 1, 9, false));
        Check.equal("at first at the one that it goes from", x.message(59, 2), 1);
        Check.equal("under way is 0", x.message(0, 3), 0);
        x.tick(1);
        Check.equal("there is 1", x.message(0, 3), 1);
        Check.equal("at most 60, also if some are there", Check.outcome(() -> x.send(0, 1, 9, false)),
                IllegalStateException.class.getName());
        WakeVillage y = of("node a born 1 energy 1; node b born 1 energy 9; link a b;");
        y.send(0, 1, 9, false);
        y.tick(1);
        Check.equal("lost is 2", y.message(0, 3), 2);
    }

    private static void nextNodes() {
        // a square a b d c and a tail d e; f is alone
        WakeVillage x = of("costs 1 0 0; node a born 5 energy 9; node b born 1 energy 1; node c born 5 energy 9;"
                + "node d born 5 energy 9; node e born 5 energy 9; node f born 5 energy 9;"
                + "link d c; link c a; link d b; link b a; link d e;");
        Check.equal("of several the lowest", x.nextNode(0, 3), 1);
        Check.equal("to the goal itself", x.nextNode(0, 2), 2);
        Check.equal("the fewest hops, not the lowest", x.nextNode(3, 4), 4);
        Check.equal("no way, no next node", x.nextNode(0, 5), WakeVillage.NONE);
        x.tick(1);
        Check.equal("b is out", x.node(1, 2), 0);
        Check.equal("not over an out node", x.nextNode(0, 3), 2);
        Check.equal("not to an out goal", x.nextNode(0, 1), WakeVillage.NONE);
        Check.equal("hops over nodes that are not out", x.hops(0, 4), 3);
    }

    private static void wakes() {
        WakeVillage x = of("costs 5 1 1; node a born 1 energy 4; node b born 1 energy 5; node c born 1 energy 6;"
                + "node d born 2 energy 6;");
        x.tick(1);
        Check.equal("the time becomes 1 more", x.setting(3), 1);
        Check.equal("not more energy than it has", x.node(0, 2), 0);
        Check.equal("just the energy that it has: out", x.node(1, 2), 0);
        Check.equal("1 left: not out", x.node(2, 2), 1);
        Check.equal("one that sleeps loses none", x.node(3, 2), 6);
        Check.equal("out: not awake in this tick", x.node(0, 6) + x.node(1, 6), 0);
        Check.equal("not out: awake in this tick", x.node(2, 6), 1);
        Check.equal("asleep: not awake", x.node(3, 6), 0);
        WakeVillage most = of("costs 99 1 1; node a born 1 energy 1;");
        most.tick(1);
        Check.equal("99 to wake with 1", most.node(0, 2), 0);
        WakeVillage none = of("costs 0 1 1; node a born 1 energy 1;");
        none.tick(99);
        Check.equal("0 to wake: never out", none.node(0, 2) * 100 + none.node(0, 6), 110);
    }

    private static void awakeWhateverComesThen() {
        // at 1 only b is awake (day 1); it takes shift 5 in c, and a (day 6) and b would sleep then
        WakeVillage x = of("miss 1; costs 0 1 1; node a born 0 shift 5 energy 9; node b born 1 energy 9;"
                + "node c born 1 energy 9; link a b; link b c;");
        x.send(1, 2, 9, false);
        Check.equal("b and c were awake in b, so that it passes in d", x.tick(1), 1);
        Check.equal("the day of b behind the tick", x.node(1, 3), 6);
        Check.equal("not awake by it", x.node(1, 4), 0);
        // at 4 b (day 9) takes shift 7 of a (day 1, awake): its day is 1 then, but it was not awake in b
        WakeVillage y = of("miss 1; costs 0 1 1; node a born 1 shift 7 energy 9; node b born 5 shift 5 energy 9; link a b;");
        y.send(1, 0, 9, false);
        Check.equal("a wakes alone: not passed", y.tick(4), 0);
        Check.equal("b took the shift", y.node(1, 1) * 10 + y.node(1, 4), 71);
        Check.equal("no wake of b", y.node(1, 6), 0);
    }

    private static void met() {
        WakeVillage x = of("miss 9; costs 0 1 1; node a born 1 energy 9; node b born 3 shift 2 energy 9; link a b;");
        x.tick(9);
        Check.equal("a woke alone at 3, b at 9", x.link(0, 2), 2);
        Check.equal("met once, at 1", x.link(0, 3), 1);
        x.tick(2);
        Check.equal("met again: misses become 0", x.link(0, 2), 0);
        Check.equal("met again: once more", x.link(0, 3), 2);
        Check.equal("missed in all: not less", x.link(0, 4), 2);
    }

    private static void missed() {
        String text = "miss 9; costs 0 1 1; node a born %; energy 9; node b born 5 shift 5 energy 9; link a b;".replace("%;", "1");
        WakeVillage x = of(text);
        // days of a: its own; of b: its own + 5; both tables are 1 and 5
        x.tick(1);
        Check.equal("just one awake, on its own birthday", x.link(0, 2), 1);
        x.tick(4);
        Check.equal("just one awake, on the birthday of the other one", x.link(0, 2), 2);
        x.tick(1);
        Check.equal("just the other one awake, on a birthday of one of both", x.link(0, 2), 3);
        x.tick(4);
        Check.equal("just the other one awake, on its own birthday", x.link(0, 2), 4);
        Check.equal("missed in all", x.link(0, 4), 4);
    }

    private static void missesStay() {
        // a watches 9; c is born on 7, so that b wakes on 7, too: a at 1 3 9, b at 2 (day 7) 6 8
        WakeVillage x = of("miss 9; costs 0 1 1; node a born 1 energy 9; node b born 3 shift 5 energy 9; node c born 7 shift 5 energy 9;"
                + "link a b; link b c;");
        x.watch(0, 9, true);
        x.tick(1);
        Check.equal("one miss", x.link(0, 2), 1);
        x.tick(1);
        Check.equal("on day 7 just b is awake: no birthday of a or b", x.link(0, 2), 1);
        x.tick(1);
        Check.equal("a second miss, on day 3 of a", x.link(0, 2), 2);
        x.tick(1);
        Check.equal("both sleep", x.link(0, 2), 2);
        x.tick(4);
        Check.equal("two more, at 6 and 8", x.link(0, 2), 4);
        x.tick(1);
        Check.equal("a day that is just watched", Made.linkOf(x, 0), "0 1 4 0 4");
        Check.equal("a was awake on it", x.node(0, 6), 3);
        WakeVillage y = of("node a born 1 shift 5 energy 9; node b born 1 energy 2; link a b; miss 9;");
        y.tick(1);
        Check.equal("missed by a", y.link(0, 2), 1);
        y.setShift(0, 0);
        y.tick(10);
        Check.equal("b is out in this tick: misses stay, not met", Made.linkOf(y, 0), "0 1 1 0 1");
        y.tick(10);
        Check.equal("b is out: misses stay, though a wakes", Made.linkOf(y, 0), "0 1 1 0 1");
        WakeVillage first = of("node a born 1 energy 1; node b born 1 energy 9; link a b;");
        first.tick(11);
        Check.equal("the first one is out: neither met nor missed", Made.linkOf(first, 0), "0 1 0 0 0");
    }

    private static void shiftsTaken() {
        // a wakes alone at 1, b alone at 6 and so on, a miss each time
        String text = "costs 0 1 1; node a born 1 energy 9; node b born 1 shift 5 energy 9; link a b;";
        for (int miss = 1; miss <= 9; miss++) {
            WakeVillage x = of("miss " + miss + ";" + text);
            int time = miss * 5 - 4;
            if (miss > 1) {
                x.tick(time - 1);
                Check.equal("one less than may be missed: " + miss, x.link(0, 2) * 10 + x.setting(9), miss * 10 - 10);
                x.tick(1);
            } else {
                x.tick(1);
            }
            Check.equal("as many as may be missed: " + miss, x.setting(9), 1);
            Check.equal("misses become 0: " + miss, x.link(0, 2), 0);
            Check.equal("missed in all: " + miss, x.link(0, 4), miss);
            Check.equal("the greater takes it: " + miss, x.node(1, 1) * 10 + x.node(0, 1), 0);
        }
        WakeVillage more = of("miss 5;" + text);
        more.tick(16);
        more.setMiss(2);
        Check.equal("more than may be missed, but no tick", more.setting(9) * 10 + more.link(0, 2), 4);
        more.tick(4);
        Check.equal("more than may be missed, but no wake", more.setting(9) * 10 + more.link(0, 2), 4);
        more.tick(1);
        Check.equal("more than may be missed", more.setting(9) * 10 + more.link(0, 2), 10);
        WakeVillage turned = of("miss 1; node a born 1 shift 3 energy 9; node b born 5 shift 8 energy 9; link b a;");
        turned.tick(2);
        Check.equal("the greater number, told first", turned.node(0, 1) * 10 + turned.node(1, 1), 33);
    }

    private static void takenAsItIsThen() {
        // only b wakes at 1
        String text = "miss 1; node a born 0 shift 5 energy 9; node b born 1 energy 9; node c born 2 shift % energy 9;";
        WakeVillage x = of(text.replace("%", "7") + "link a b; link b c;");
        x.tick(1);
        Check.equal("b takes 5 of a, and c takes 5 of b", x.node(1, 1) * 10 + x.node(2, 1), 55);
        WakeVillage y = of(text.replace("%", "7") + "link b c; link a b;");
        y.tick(1);
        Check.equal("the links by number: c takes 0 of b first", y.node(1, 1) * 10 + y.node(2, 1), 50);
        WakeVillage same = of(text.replace("%", "5") + "link a b; link b c;");
        Check.equal("also if it is the same: it comes", same.takesIn(), 1);
        same.tick(1);
        Check.equal("also if it is the same: it counts", same.setting(9), 2);
        Check.equal("also if it is the same: misses become 0", same.link(1, 2), 0);
    }

    /** All are awake at 1, 11, 21; to wake costs nothing. */
    private static WakeVillage star(String links) {
        return of("costs 0 1 1; node a born 1 energy 99; node b born 1 energy 99; node c born 1 energy 99;"
                + "node d born 1 energy 99;" + links);
    }

    private static void urgentFirstByNumber() {
        WakeVillage x = star("link a b;");
        x.send(0, 1, 9, false);
        x.send(0, 1, 9, false);
        x.send(0, 1, 9, true);
        x.send(0, 1, 9, true);
        int[] there = {11, 21, 1, 2};
        x.tick(21);
        for (int i = 0; i < 4; i++) {
            Check.equal("urgent ones first, both by number: " + i, x.message(i, 6), there[i]);
        }
    }

    private static void oneOnOneGot() {
        WakeVillage on = star("link a b; link a c;");
        on.send(0, 1, 9, false);
        on.send(0, 2, 9, false);
        Check.equal("the node has passed on one in this tick", on.tick(1), 1);
        Check.equal("in the next it may", on.tick(10), 1);
        WakeVillage got = star("link a b; link c b;");
        got.send(0, 1, 9, false);
        got.send(2, 1, 9, false);
        Check.equal("the next one has got one in this tick", got.tick(1), 1);
        Check.equal("in the next it may", got.tick(10), 1);
        WakeVillage both = star("link a b; link b c;");
        both.send(0, 1, 9, false);
        both.send(1, 2, 9, false);
        Check.equal("it has got one, and passes on another one", both.tick(1), 2);
        WakeVillage turned = star("link a b; link b c;");
        turned.send(1, 2, 9, false);
        turned.send(0, 1, 9, false);
        Check.equal("it has passed on one, and gets another one", turned.tick(1), 2);
        WakeVillage swapped = star("link a b;");
        swapped.send(0, 1, 9, false);
        swapped.send(1, 0, 9, false);
        Check.equal("two messages change places", swapped.tick(1), 2);
        WakeVillage once = star("link a b; link b c;");
        once.send(0, 2, 9, true);
        Check.equal("a message passes once in a tick at most", once.tick(1), 0);
        Check.equal("it is half way", once.message(0, 2) * 10 + once.message(0, 7), 11);
    }

    private static void bothAwakeOrUrgent() {
        String text = "costs 0 2 3; node a born 1 energy 99; node b born 1 shift % energy 99; link a b;";
        WakeVillage both = of(text.replace("%", "0"));
        both.send(0, 1, 9, false);
        Check.equal("both awake", both.tick(1), 1);
        WakeVillage giver = of("miss 9;" + text.replace("%", "5"));
        giver.send(0, 1, 9, false);
        Check.equal("just the giver awake, not urgent", giver.tick(1), 0);
        WakeVillage taker = of("miss 9;" + text.replace("%", "5"));
        taker.send(1, 0, 9, false);
        Check.equal("just the taker awake, not urgent", taker.tick(1), 0);
        WakeVillage none = of(text.replace("%", "0"));
        none.tick(1);
        none.send(0, 1, 9, false);
        Check.equal("none awake, not urgent", none.tick(1), 0);
        String[] whom = {"both awake", "the giver awake", "the taker awake", "none awake"};
        int[] due = {97, 94, 94, 94};
        for (int i = 0; i < 4; i++) {
            WakeVillage x = of("miss 9;" + text.replace("%", i == 0 || i == 3 ? "0" : "5"));
            if (i == 3) {
                x.tick(1);
            }
            x.send(i == 2 ? 1 : 0, i == 2 ? 0 : 1, 9, true);
            Check.equal("urgent: " + whom[i], x.tick(1), 1);
            Check.equal("urgent, what both lose: " + whom[i], x.node(0, 2) * 100 + x.node(1, 2), due[i] * 101);
        }
    }

    /** Behind the wakes, which cost 1 each, a message costs 3 (or 7 when it calls). */
    private static int passed(int energyOfA, int energyOfB, boolean isCall) {
        String born = isCall ? " born 5 energy " : " born 1 energy ";
        WakeVillage x = of("costs 1 3 4; node a" + born + energyOfA + "; node b" + born + energyOfB + "; link a b;");
        x.send(0, 1, 9, isCall);
        int there = x.tick(1);
        Check.equal("a message that does not pass costs nothing",
                there == 1 || x.node(0, 2) + x.node(1, 2) == energyOfA + energyOfB - (isCall ? 0 : 2), true);
        return there;
    }

    private static void theEnergyThatItCosts() {
        Check.equal("both have just the energy that it costs", passed(4, 4, false), 1);
        Check.equal("the giver has 1 less", passed(3, 4, false), 0);
        Check.equal("the taker has 1 less", passed(4, 3, false), 0);
        Check.equal("both have just the energy to call", passed(7, 7, true), 1);
        Check.equal("the giver has 1 less to call", passed(6, 7, true), 0);
        Check.equal("the taker has 1 less to call", passed(7, 6, true), 0);
        WakeVillage free = of("costs 0 0 0; node a born 5 energy 1; node b born 5 energy 1; link a b;");
        free.send(0, 1, 9, true);
        Check.equal("it costs nothing", free.tick(1), 1);
        Check.equal("nothing was lost", free.node(0, 2) + free.node(1, 2), 2);
    }

    private static void outByPassing() {
        WakeVillage x = of("costs 0 3 4; node a born 1 energy 3; node b born 1 energy 9; node c born 1 energy 9; link a b; link c a;");
        x.send(0, 1, 9, false);
        x.send(2, 0, 9, false);
        Check.equal("a is out when it has passed one on, and gets none", x.tick(1), 1);
        Check.equal("energy 0 is out", x.node(0, 2) + x.node(0, 4), 0);
        Check.equal("c keeps its message", x.message(1, 2) * 10 + x.message(1, 3), 20);
        Check.equal("it was awake in this tick", x.node(0, 6), 1);
        WakeVillage way = of("costs 0 3 4; node a born 1 energy 99; node b born 1 energy 3; node c born 1 energy 99;"
                + "node d born 1 energy 99; link a b; link a c; link b d; link c d;");
        way.send(3, 1, 9, false);
        way.send(0, 3, 9, false);
        way.tick(1);
        Check.equal("the next node as the nodes are then", way.message(1, 2), 2);
    }

    private static void thereAtItsGoal() {
        WakeVillage x = of("costs 0 3 4; node a born 1 energy 9; node b born 1 energy 3; link a b;");
        x.send(0, 1, 1, false);
        Check.equal("there, also if the goal is out then", x.tick(1), 1);
        Check.equal("not lost", x.message(0, 3) * 10 + x.node(1, 2), 10);
        Check.equal("within its tick", x.setting(6), 1);
        x.tick(30);
        Check.equal("it stays there", x.message(0, 3) * 100 + x.message(0, 6), 101);
    }

    private static void lost() {
        WakeVillage x = of("costs 0 3 4; node a born 1 energy 99; node b born 1 energy 3; node c born 1 energy 99; link a b; link b c;");
        x.send(0, 2, 9, false);
        x.send(1, 0, 9, false);
        x.tick(1);
        Check.equal("at a node that is out by getting it", x.message(0, 3) * 10 + x.message(0, 2), 21);
        Check.equal("what waits at it, too", x.message(1, 3) * 10 + x.message(1, 2), 21);
        WakeVillage y = of("costs 1 3 4; node a born 1 energy 1; node b born 2 energy 99; link a b;");
        y.send(0, 1, 9, false);
        y.send(1, 0, 9, true);
        y.tick(1);
        Check.equal("at a node that is out by its wake", y.message(0, 3), 2);
        Check.equal("not at one that is not out, to an out goal", y.message(1, 3), 0);
        WakeVillage z = of("costs 0 3 4; node a born 1 energy 3; node b born 1 energy 99; link a b;");
        z.send(0, 1, 9, false);
        z.send(0, 1, 9, false);
        Check.equal("the first is there", z.tick(1), 1);
        Check.equal("the second is lost, as passing the first on took all", z.message(1, 3), 2);
        Check.equal("lost ones", z.setting(7), 1);
        z.charge(0, 99);
        Check.equal("none comes there any more", z.tick(30), 0);
        Check.equal("it stays lost", z.message(1, 3), 2);
    }
}
