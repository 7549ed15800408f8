/** Promises 5 to 7: scripts, their errors, and where they end. */
final class ScriptTest {
    private ScriptTest() {
    }

    static void run() {
        commands();
        repeats();
        endsOfScripts();
        badScripts();
        tooManyCommands();
        whatAnErrorLeaves();
    }

    private static WakeVillage after(String script, int done) {
        WakeVillage x = Made.of(Made.CHAIN);
        Check.equal("[" + script + "]", Made.run(x, script), done);
        Check.equal("[" + script + "] can be undone", x.setting(10), 1);
        Check.equal("[" + script + "] code", x.errorCode(), 0);
        Check.equal("[" + script + "] position", x.errorPosition(), WakeVillage.NONE);
        Check.argument("[" + script + "] empties the buffer", () -> x.truncate(1));
        return x;
    }

    private static void commands() {
        after("", 0);
        after(" \n", 0);
        Check.equal("tick", after("tick 5;", 1).setting(3), 5);
        WakeVillage x = after("tick 1;send a c 9;call c a 20;", 3);
        Check.equal("send", Made.messageOf(x, 0), "0 2 0 0 10 0 -1 0");
        Check.equal("call", Made.messageOf(x, 1), "2 0 2 0 21 1 -1 0");
        Check.equal("shift", after("shift b 9;", 1).node(1, 1), 9);
        Check.equal("watch", after("watch a 0;", 1).inTable(0, 0), true);
        Check.equal("charge", after("charge c 999;charge c 7;", 2).node(2, 2), 1036);
        Check.equal("a word and a number", after("shift b9;tick5;", 2).setting(3), 5);
        WakeVillage named = Made.of("node tick born 1 energy 5; node repeat born 2 energy 5;");
        Check.equal("names as commands", Made.run(named, "charge tick 1; send repeat tick 1;"), 2);
    }

    private static void repeats() {
        Check.equal("repeat", after("repeat 3 ( tick 2; charge a 1; );", 6).setting(3), 6);
        Check.equal("repeat once", after("repeat 1 (tick 2;); tick 1;", 2).setting(3), 3);
        Check.equal("behind a repeat", after("repeat 2 ( tick 1; ); tick 30;", 3).setting(3), 32);
        WakeVillage x = after("repeat 2 ( tick 1; repeat 3 ( tick 10; ); charge a 1; ); tick 50;", 11);
        Check.equal("a repeat in a repeat", x.setting(3), 112);
        Check.equal("a repeat of nothing", after("repeat 20 ( ); tick 1;", 1).setting(3), 1);
        Check.equal("nothing in a repeat", after("repeat 2 ( tick 1; repeat 20 ( ); repeat 3(); );", 2).setting(3), 2);
        Check.equal("ends at one place", after("repeat 3 ( repeat 2 ( tick 1; ); );", 6).setting(3), 6);
        Check.equal("side by side", after("repeat 2 (repeat 2 (tick 1;);repeat 3 (tick 4;););", 10).setting(3), 28);
        Check.equal("a repeat ends at 40", after("repeat 20 ( repeat 20 ( tick 1; ); );", 40).setting(3), 40);
        Check.equal("40 and no more", after("repeat 20 (tick 1;);repeat 20 (tick 1;);tick 9;", 40).setting(3), 40);
        Check.equal("39 and 1", after("repeat 13 (tick 1;tick 1;tick 1;);tick 9;tick 9;", 40).setting(3), 48);
    }

    private static void endsOfScripts() {
        Check.equal("tick 0", after("tick 0; tick 1;", 0).setting(3), 0);
        Check.equal("tick 100", after("tick 3; tick 100; tick 1;", 1).setting(3), 3);
        Check.equal("tick 99", after("tick 99;", 1).setting(3), 99);
        Check.equal("to itself", after("send a a 5; tick 1;", 0).setting(4), 0);
        Check.equal("within 0", after("call a b 0; tick 1;", 0).setting(4), 0);
        Check.equal("within 999", after("call a b 999;", 1).setting(4), 1);
        Check.equal("shift of the year", after("shift a 10; tick 1;", 0).node(0, 1), 0);
        Check.equal("watch of the year", after("watch a 10; tick 1;", 0).setting(3), 0);
        Check.equal("watched already", after("watch a 4; watch a 4; tick 1;", 1).setting(3), 0);
        Check.equal("in the table, not watched", after("watch a 1; tick 1;", 2).setting(3), 1);
        Check.equal("charge 0", after("charge a 0; tick 1;", 0).setting(3), 0);
        Check.equal("it ends in a repeat", after("repeat 5 ( tick 1; watch a 4; ); tick 1;", 3).setting(3), 2);
        WakeVillage out = Made.of("node a born 1 energy 1; node b born 5 energy 9;");
        Check.equal("a node is out", Made.run(out, "tick 1; send b a 5; tick 1;"), 1);
        WakeVillage late = Made.of(Made.CHAIN);
        Check.equal("to 3960", Made.run(late, "repeat 20 (repeat 20 (tick 99;););"), 40);
        Check.equal("to 7920", Made.run(late, "repeat 20 (repeat 20 (tick 99;););"), 40);
        Check.equal("to 9999", Made.run(late, "repeat 20 (tick 99;); tick 99; tick 1; tick 1;"), 21);
        Check.equal("the latest time", late.setting(3), 9999);
        WakeVillage full = Made.of(Made.CHAIN);
        Check.equal("40 messages", Made.run(full, "repeat 2 (repeat 20 (send a c 9;););"), 40);
        Check.equal("60 messages", Made.run(full, "repeat 2 (repeat 20 (call a c 9;););"), 20);
    }

    private static void bad(String script, int code, int position) {
        WakeVillage x = Made.of(Made.CHAIN);
        String before = Made.allOf(x);
        Made.feed(x, script);
        Check.argument("[" + script + "]", () -> x.runScript());
        Check.equal("[" + script + "] code", x.errorCode(), code);
        Check.equal("[" + script + "] position", x.errorPosition(), position);
        Check.equal("[" + script + "] leaves all", Made.allOf(x), before);
        Check.equal("[" + script + "] is not undone", x.setting(10), 0);
        Check.argument("[" + script + "] empties the buffer", () -> x.truncate(1));
    }

    private static void badScripts() {
        bad("foo;", 1, 0);
        bad("year 12;", 1, 0);
        bad("7", 1, 0);
        bad(";", 1, 0);
        bad(")", 1, 0);
        bad("tick 1; )", 1, 8);
        bad("tick", 1, 4);
        bad("tick a;", 1, 5);
        bad("tick 1000;", 1, 5);
        bad("tick 5", 1, 6);
        bad("tick 5 5;", 1, 7);
        bad("tick 5 )", 1, 7);
        bad("send a", 1, 6);
        bad("send a 5;", 1, 7);
        bad("send z a 5;", 4, 5);
        bad("send a z 5;", 4, 7);
        bad("call a abcdefghi 5;", 1, 7);
        bad("charge aa 5;", 4, 7);
        bad("shift 5;", 1, 6);
        bad("watch a b;", 1, 8);
        bad("repeat 0 (", 2, 7);
        bad("repeat 21 ();", 2, 7);
        bad("repeat (", 1, 7);
        bad("repeat 2 tick 1;", 1, 9);
        bad("repeat 2 ( tick 1; ", 1, 19);
        bad("repeat 2 ( tick 1; )", 1, 20);
        bad("repeat 2 ( tick 1 );", 1, 18);
        bad("repeat 2 ( ) tick 1;", 1, 13);
        bad("repeat 2 ( tick 1; );)", 1, 21);
        bad("repeat 2 ( ( ) );", 1, 11);
        bad("repeat 2 ( ; );", 1, 11);
        bad("repeat 2 ( repeat 2 ( repeat 2 ( tick 1; ); ); );", 3, 22);
        bad("repeat 2 ( repeat 2 ( tick 1; ); repeat 2 ( repeat", 3, 44);
        bad("tick 1; tick ~", 1, 13);
    }

    private static void tooManyCommands() {
        String thirty = "tick1;".repeat(30);
        after(thirty, 30);
        bad(thirty + "tick1;", 5, 180);
        bad(thirty + "tack1;", 1, 180);
        String repeated = "repeat 1(" + "tick1;".repeat(29) + ");";
        after(repeated, 29);
        bad("repeat 1(" + thirty + ");", 5, 183);
        bad(thirty + " repeat", 5, 181);
        String deep = "repeat 1(repeat 1(" + "tick1;".repeat(28);
        after(deep + "););", 28);
        bad(deep + "repeat 1", 3, 186);
        bad(deep + "tick", 5, 186);
    }

    private static void whatAnErrorLeaves() {
        WakeVillage x = Made.of(Made.CHAIN);
        x.tick(1);
        x.report();
        Made.feed(x, "tick 1; tick");
        Check.argument("a script with an error", () -> x.runScript());
        Check.equal("no command was done", x.setting(3), 1);
        Check.equal("the error's position", x.errorPosition(), 12);
        Check.equal("a script without an error", Made.run(x, "tick 1;"), 1);
        Check.equal("the error is gone", x.errorCode(), 0);
        Check.equal("the report stays", x.reportByte(0), (int) 'a');
        Check.equal("undo of a script", x.undo(), 1);
        Check.equal("the time before the script", x.setting(3), 1);
        Made.feed(x, "repeat 2 ( repeat 2 ( tick 0000;");
        Check.argument("an error in two repeats", () -> x.runScript());
        Check.equal("two repeats behind it", Made.run(x, "repeat 2 ( repeat 2 ( tick 1; ); );"), 4);
        Made.run(x, "repeat 2 ( repeat 2 ( tick 0; ); );");
        Check.equal("behind a script that ended in two repeats", Made.run(x, "tick 1; tick 1;"), 2);
    }
}
