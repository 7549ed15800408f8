/** Term 4 and promise 30: what a tick does, step by step. */
final class TickTest {
    private TickTest() {
    }

    static void run() {
        time();
        wakes();
        meetings();
        oneMissAtATime();
        shiftsInOneTick();
        outOnesDoNotMeet();
        onePassAndOneGet();
        urgentFirst();
        energyToPass();
        outAtTheGoal();
        lostOnes();
        waysAsTheyAreThen();
        passingFromAnOutNode();
    }

    private static void time() {
        WakeVillage x = Made.of(Made.CHAIN);
        Check.argument("tick 0", () -> x.tick(0));
        Check.argument("tick -1", () -> x.tick(-1));
        Check.argument("tick 100", () -> x.tick(100));
        Check.equal("nothing went by", x.setting(3), 0);
        Check.equal("nothing to undo", x.setting(10), 0);
        x.tick(99);
        Check.equal("99 went by", x.setting(3), 99);
        WakeVillage y = new WakeVillage();
        for (int i = 0; i < 101; i++) {
            y.tick(99);
        }
        Check.state("to 10098", () -> y.tick(99));
        Check.argument("the argument first", () -> y.tick(100));
        Check.equal("it did not go by", y.setting(3), 9999);
        Check.state("to 10000", () -> y.tick(1));
        y.undo();
        Check.equal("to 9999", y.tick(99), 0);
        WakeVillage one = Made.of(Made.CHAIN);
        WakeVillage many = Made.of(Made.CHAIN);
        one.send(0, 2, 5, false);
        many.send(0, 2, 5, false);
        one.send(2, 1, 5, false);
        many.send(2, 1, 5, false);
        int there = 0;
        for (int i = 0; i < 30; i++) {
            there += one.tick(1);
        }
        Check.equal("there one by one", there, 2);
        Check.equal("there at once", many.tick(30), 2);
        Check.equal("30 times 1 is 30", Made.allOf(one), Made.allOf(many));
    }

    private static void wakes() {
        WakeVillage x = Made.of("year 10; costs 4 1 1; node a born 1 energy 4; node b born 1 energy 5; "
                + "node c born 1 energy 3; node d born 2 energy 9;");
        x.tick(1);
        Check.equal("just what it costs", Made.nodeOf(x, 0), "1 0 0 1 0 0 0 0 0 1 0");
        Check.equal("one more", Made.nodeOf(x, 1), "1 0 1 1 1 0 1 0 0 1 0");
        Check.equal("less", Made.nodeOf(x, 2), "1 0 0 1 0 0 0 0 0 1 0");
        Check.equal("it sleeps", Made.nodeOf(x, 3), "2 0 9 1 0 0 0 0 0 1 0");
        x.tick(10);
        Check.equal("it stays out", Made.nodeOf(x, 0), "1 0 0 1 0 0 0 0 0 1 0");
        x.charge(0, 9);
        x.tick(10);
        Check.equal("charged", Made.nodeOf(x, 0), "1 0 5 1 1 0 1 0 0 1 0");
        WakeVillage free = Made.of("year 10; costs 0 1 1; node a born 1 energy 1;");
        free.tick(21);
        Check.equal("it costs nothing", Made.nodeOf(free, 0), "1 0 1 1 1 0 3 0 0 1 0");
    }

    private static void meetings() {
        WakeVillage x = Made.of(Made.CHAIN);
        x.tick(1);
        Check.equal("met", Made.linkOf(x, 0), "0 1 0 1 0");
        Check.equal("missed on the birthday of b", Made.linkOf(x, 1), "1 2 1 0 1");
        x.tick(1);
        Check.equal("both sleep", Made.linkOf(x, 1), "1 2 1 0 1");
        x.tick(1);
        Check.equal("met: no misses", Made.linkOf(x, 1), "1 2 0 1 1");
        // b wakes on day 5, no birthday of a or b; a sleeps
        WakeVillage y = Made.of(Made.CHAIN);
        y.setMiss(9);
        y.setShift(0, 9);
        y.tick(2);
        Check.equal("missed on the birthdays of b and a", Made.linkOf(y, 0), "0 1 2 0 2");
        y.tick(1);
        Check.equal("a wake on the day of another one", Made.linkOf(y, 0), "0 1 2 0 2");
        // a watches day 7, which is no birthday of the link
        WakeVillage z = Made.of(Made.CHAIN);
        z.watch(0, 7, true);
        z.tick(7);
        Check.equal("a wake on a watched day", Made.linkOf(z, 0), "0 1 0 2 0");
        Check.equal("it was awake", z.node(0, 6), 3);
    }

    private static void oneMissAtATime() {
        // a wakes on its birthday at 1 11 21, on b's at 5 15 25; b sleeps: it is on day 3 at 1, 7 at 5
        String text = "year 10; miss 4; node a born 1 energy 90; node b born 5 shift 2 energy 90; link a b;";
        WakeVillage x = Made.of(text);
        // b: day 5 at 3, day 1 at 9
        int[] misses = {0, 1, 1, 2, 2, 3, 3, 3, 3, 0};
        for (int time = 0; time < 10; time++) {
            Check.equal("misses at " + time, x.link(0, 2), misses[time]);
            x.tick(1);
        }
        Check.equal("b took the shift of a", x.node(1, 1), 0);
        Check.equal("one was taken", x.setting(9), 1);
        Check.equal("missed in all", x.link(0, 4), 4);
        x.tick(1);
        Check.equal("now they meet", Made.linkOf(x, 0), "0 1 0 1 4");
        WakeVillage fewer = Made.of(text);
        fewer.tick(5);
        fewer.setMiss(1);
        Check.equal("nothing is taken at once", fewer.setting(9), 0);
        Check.equal("three misses stay", fewer.link(0, 2), 3);
        fewer.tick(4);
        Check.equal("more than may be missed", fewer.setting(9), 1);
        WakeVillage back = Made.of("year 10; miss 1; node a born 1 shift 2 energy 90; node b born 5 energy 90; link b a;");
        back.tick(1);
        Check.equal("the greater number takes it, told first or not", back.node(1, 1), 2);
        Check.equal("the lower keeps it", back.node(0, 1), 2);
    }

    private static void shiftsInOneTick() {
        WakeVillage x = Made.of("year 10; miss 1; node a born 0 shift 5 energy 9; node b born 1 energy 9; "
                + "node c born 2 shift 7 energy 9; link a b; link b c;");
        // only b wakes at 1 (day 1); it takes 5 of a, and c then takes 5 of b
        Check.equal("in 1", x.takesIn(), 1);
        x.tick(1);
        Check.equal("b", x.node(1, 1), 5);
        Check.equal("c, by the day of b as it was", x.node(2, 1), 5);
        Check.equal("two were taken", x.setting(9), 2);
        WakeVillage same = Made.of("year 10; miss 1; node a born 0 shift 5 energy 9; node b born 1 energy 9; "
                + "node c born 2 shift 5 energy 9; link a b; link b c;");
        same.tick(1);
        Check.equal("also the same shift", same.setting(9), 2);
        Check.equal("and no misses", Made.linkOf(same, 1), "1 2 0 0 1");
        WakeVillage turned = Made.of("year 10; miss 1; node a born 0 shift 5 energy 9; node b born 1 energy 9; "
                + "node c born 2 shift 7 energy 9; link b c; link a b;");
        turned.tick(1);
        Check.equal("links by number", turned.node(2, 1), 0);
    }

    private static void outOnesDoNotMeet() {
        // a is out when it wakes at 1; b is awake at 1
        WakeVillage x = Made.of("year 10; node a born 1 energy 1; node b born 1 energy 9; link a b;");
        x.tick(1);
        Check.equal("b wakes", x.node(1, 6), 1);
        Check.equal("neither met nor missed", Made.linkOf(x, 0), "0 1 0 0 0");
        x.tick(20);
        Check.equal("nor later", Made.linkOf(x, 0), "0 1 0 0 0");
    }

    private static void onePassAndOneGet() {
        String star = "year 10; costs 0 1 1; node a born 1 energy 99; node b born 1 energy 99; "
                + "node c born 1 energy 99; node d born 1 energy 99; link a b; link b c; link b d;";
        WakeVillage x = Made.of(star);
        x.send(0, 1, 9, false);
        x.send(0, 1, 9, false);
        Check.equal("one is passed on in a tick", x.tick(1), 1);
        Check.equal("the first", x.message(0, 3), 1);
        Check.equal("the other a year later", x.tick(10), 1);
        WakeVillage y = Made.of(star);
        y.send(3, 1, 9, false);
        y.send(0, 1, 9, false);
        Check.equal("one is got in a tick", y.tick(1), 1);
        Check.equal("the first by number", y.message(0, 3), 1);
        WakeVillage z = Made.of(star);
        z.send(1, 2, 9, false);
        z.send(0, 1, 9, false);
        Check.equal("one passed on and one got", z.tick(1), 2);
        Check.equal("b did both", Made.nodeOf(z, 1), "1 0 97 1 1 13 1 1 1 1 0");
        WakeVillage apart = Made.of(star);
        apart.send(1, 2, 9, false);
        apart.send(1, 0, 9, false);
        apart.send(1, 3, 9, true);
        Check.equal("to three others, one in a tick", apart.tick(1), 1);
        Check.equal("the urgent one", apart.message(2, 3), 1);
        Check.equal("b passed on one", apart.node(1, 7), 1);
        Check.equal("the first one then", apart.tick(10), 1);
        Check.equal("by number", apart.message(0, 3), 1);
        WakeVillage gets = Made.of(star.replace("link b d;", "link b d; node e born 1 energy 99; link e d; link c d;"));
        gets.send(0, 1, 9, false);
        gets.send(4, 3, 9, false);
        gets.send(2, 1, 9, false);
        gets.send(1, 3, 9, false);
        gets.send(2, 3, 9, false);
        Check.equal("b and d got theirs", gets.tick(1), 2);
        Check.equal("c passed on none", gets.node(2, 7), 0);
        Check.equal("nor did b", gets.node(1, 7), 0);
        WakeVillage gives = Made.of(star.replace("link b d;", "link c d; node e born 1 energy 99; link a e;"));
        gives.send(0, 1, 9, false);
        gives.send(2, 3, 9, false);
        gives.send(0, 4, 9, false);
        Check.equal("a and c passed on one each", gives.tick(1), 2);
        Check.equal("e got none", gives.node(4, 8), 0);
        WakeVillage through = Made.of(star);
        through.send(0, 2, 9, false);
        through.tick(1);
        Check.equal("a message passes once in a tick", Made.messageOf(through, 0), "0 2 1 0 9 0 -1 1");
        WakeVillage behind = Made.of(star);
        behind.send(0, 2, 9, false);
        behind.send(1, 3, 9, false);
        behind.tick(1);
        Check.equal("what b got first waits", behind.message(0, 2), 1);
        Check.equal("what was at b goes on", behind.message(1, 3), 1);
        WakeVillage blocked = Made.of(star);
        blocked.send(0, 1, 9, false);
        blocked.send(2, 3, 9, false);
        blocked.send(2, 1, 9, false);
        blocked.tick(1);
        Check.equal("the next has got one", blocked.message(1, 2), 2);
        Check.equal("it did not pass", blocked.node(2, 7), 0);
    }

    private static void urgentFirst() {
        String pair = "year 10; costs 0 2 3; node a born 1 energy 99; node b born 2 energy 99; "
                + "node c born 6 energy 99; link a b; link c b;";
        WakeVillage x = Made.of(pair);
        x.send(0, 1, 9, false);
        x.send(0, 1, 9, true);
        x.send(0, 1, 9, true);
        x.tick(1);
        Check.equal("the first urgent one", x.message(1, 3), 1);
        Check.equal("not the lowest", x.message(0, 3), 0);
        Check.equal("both awake: no call", x.node(0, 2), 97);
        x.tick(2);
        Check.equal("the other urgent one, at 2", x.message(2, 6), 2);
        Check.equal("a waits", x.message(0, 3), 0);
        x.tick(8);
        Check.equal("at 11", x.message(0, 6), 11);
        WakeVillage y = Made.of(pair);
        y.send(0, 1, 9, true);
        y.tick(1);
        y.send(0, 1, 9, true);
        y.tick(1);
        y.send(0, 1, 9, true);
        y.tick(1);
        Check.equal("two wakes and a call: the caller", y.node(0, 2), 90);
        Check.equal("two wakes and a call: the other", y.node(1, 2), 90);
        y.send(2, 1, 9, true);
        y.tick(3);
        Check.equal("a call at once", y.message(3, 6), 4);
        WakeVillage one = Made.of("year 10; costs 0 2 3; node a born 1 energy 99; node b born 1 shift 5 energy 99; link a b;");
        one.send(0, 1, 9, true);
        one.tick(1);
        Check.equal("just one awake: it is a call", one.node(1, 2), 94);
    }

    private static void energyToPass() {
        String text = "year 10; costs 1 3 4; node a born 1 energy %; node b born 1 energy #; link a b;";
        WakeVillage enough = Made.of(text.replace("%", "4").replace("#", "4"));
        enough.send(0, 1, 9, false);
        Check.equal("just enough", enough.tick(1), 1);
        Check.equal("both are out then", enough.setting(8), 0);
        WakeVillage giver = Made.of(text.replace("%", "3").replace("#", "9"));
        giver.send(0, 1, 9, false);
        Check.equal("the giver has too little", giver.tick(1), 0);
        Check.equal("nobody loses it", giver.node(1, 2), 8);
        WakeVillage taker = Made.of(text.replace("%", "9").replace("#", "3"));
        taker.send(0, 1, 9, false);
        Check.equal("the taker has too little", taker.tick(1), 0);
        Check.equal("nobody loses it", taker.node(0, 2), 8);
        String call = "year 10; costs 1 3 4; node a born 5 energy %; node b born 5 energy #; link a b;";
        WakeVillage calls = Made.of(call.replace("%", "7").replace("#", "7"));
        calls.send(0, 1, 9, true);
        Check.equal("just enough to call", calls.tick(1), 1);
        WakeVillage poor = Made.of(call.replace("%", "6").replace("#", "9"));
        poor.send(0, 1, 9, true);
        Check.equal("too little to call", poor.tick(1), 0);
        WakeVillage other = Made.of(call.replace("%", "9").replace("#", "6"));
        other.send(0, 1, 9, true);
        Check.equal("too little to be called", other.tick(1), 0);
        Check.equal("it waits", other.message(0, 3), 0);
        other.tick(4);
        Check.equal("awake, it is cheaper", other.message(0, 6), 5);
    }

    private static void outAtTheGoal() {
        WakeVillage x = Made.of("year 10; costs 0 3 4; node a born 1 energy 9; node b born 1 energy 3; link a b;");
        x.send(0, 1, 9, false);
        Check.equal("there", x.tick(1), 1);
        Check.equal("the goal is out", x.node(1, 2), 0);
        Check.equal("not lost", Made.messageOf(x, 0), "0 1 1 1 9 0 1 1");
    }

    private static void lostOnes() {
        WakeVillage x = Made.of("year 10; costs 0 3 4; node a born 1 energy 9; node b born 1 energy 3; "
                + "node c born 1 energy 9; link a b; link b c;");
        x.send(0, 2, 9, false);
        Check.equal("none there", x.tick(1), 0);
        Check.equal("lost where it got to", Made.messageOf(x, 0), "0 2 1 2 9 0 -1 1");
        Check.equal("it is at no node", x.node(1, 10), 0);
        Check.equal("lost", x.setting(7), 1);
        x.charge(1, 99);
        x.tick(30);
        Check.equal("it stays lost", x.message(0, 3), 2);
        WakeVillage y = Made.of("year 10; costs 2 1 1; node a born 1 energy 2; node b born 1 energy 9; link a b;");
        y.send(0, 1, 9, true);
        y.send(1, 0, 9, true);
        y.tick(1);
        Check.equal("out as it wakes", y.message(0, 3), 2);
        Check.equal("to an out goal", y.message(1, 3), 0);
        y.charge(0, 9);
        y.tick(1);
        Check.equal("to a charged goal", y.message(1, 3), 1);
    }

    private static void waysAsTheyAreThen() {
        // d is as near by b as by c; b is out when the first has passed
        WakeVillage x = Made.of("year 10; costs 0 3 4; node a born 1 energy 99; node b born 1 energy 3; "
                + "node c born 1 energy 99; node d born 1 energy 99; link a b; link a c; link b d; link c d; ");
        x.send(3, 1, 9, false);
        x.send(0, 3, 9, false);
        x.tick(1);
        Check.equal("there, and out", x.node(1, 2), 0);
        Check.equal("the other way, in the same tick", x.message(1, 2), 2);
        WakeVillage none = Made.of("year 10; costs 0 3 4; node a born 1 energy 99; node b born 1 energy 3; "
                + "node c born 1 energy 99; link a b; link b c;");
        none.send(2, 1, 9, false);
        none.send(0, 2, 9, false);
        none.tick(1);
        Check.equal("no way any more", none.message(1, 2), 0);
        Check.equal("it waits", none.message(1, 3), 0);
    }

    /** By the words of the document, which asks only of the next node that it is not out. */
    private static void passingFromAnOutNode() {
        WakeVillage x = Made.of("year 10; costs 5 0 0; node a born 1 energy 5; node b born 2 energy 9; link a b;");
        x.send(0, 1, 9, true);
        Check.equal("a call for nothing", x.tick(1), 1);
        WakeVillage y = Made.of("year 10; costs 5 0 1; node a born 1 energy 5; node b born 2 energy 9; link a b;");
        y.send(0, 1, 9, true);
        Check.equal("no energy to call", y.tick(1), 0);
        Check.equal("lost", y.message(0, 3), 2);
    }
}
