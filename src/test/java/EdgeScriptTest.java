/** Term 5 of the document, sentence by sentence: scripts, their errors and their ends at the edges. */
final class EdgeScriptTest {
    private static final String[] WHOLE = ("tick 1 ; send a b 9 ; call b c 9 ; shift a 1 ; watch b 9 ; charge c 1 ; "
            + "repeat 2 ( tick 1 ; repeat 1 ( ) ; repeat 2 ( charge a 1 ; tick 2 ; ) ; ) ; tick 3 ;").split(" ");

    private EdgeScriptTest() {
    }

    static void run() {
        tokens();
        everyByte();
        numbersFrom0To999();
        repeatFrom1To20();
        endsTooEarly();
        whatTheGrammarDoesNotAllow();
        repeatWithinTwoOthers();
        namesThatNoNodeHas();
        atMost30Commands();
        theLowestCode();
        endsAtTick();
        endsAtSend();
        endsAtShiftWatchCharge();
        endsAsAWhole();
        at40Commands();
        repeatsOfNothing();
    }

    private static WakeVillage runs(String sentence, String script, int done) {
        WakeVillage x = Made.of(Made.CHAIN);
        runsOn(x, sentence, script, done);
        return x;
    }

    private static void runsOn(WakeVillage x, String sentence, String script, int done) {
        Made.feed(x, script);
        Check.equal(sentence, Check.outcome(() -> x.runScript()), String.valueOf(done));
        Check.equal(sentence + ": no error", x.errorCode() + " " + x.errorPosition(), "0 -1");
    }

    private static void fails(String sentence, String script, int code, int position) {
        WakeVillage x = Made.of(Made.CHAIN);
        String before = Made.allOf(x);
        Made.feed(x, script);
        Check.argument(sentence, () -> x.runScript());
        Check.equal(sentence + ": code and position", x.errorCode() + " " + x.errorPosition(), code + " " + position);
        Check.equal(sentence + ": nothing was done", Made.allOf(x) + x.setting(10), before + 0);
    }

    private static void tokens() {
        Check.equal("no bytes", runs("no bytes", "", 0).setting(3), 0);
        Check.equal("blanks alone", runs("blanks alone", "\n \n", 0).setting(3), 0);
        Check.equal("600 bytes", runs("600 bytes", " ".repeat(592) + "tick 13;", 1).setting(3), 13);
        fails("an error in byte 599", " ".repeat(599) + "?", 1, 599);
        fails("an end behind byte 599", " ".repeat(596) + "tick", 1, 600);
        Check.equal("no blanks", runs("no blanks", "tick1;repeat2(charge a1;shift b9;watch a8;);", 6).setting(3), 1);
        Check.equal("line feeds", runs("line feeds", "\ntick\n1\n;\nrepeat\n2\n(\ntick\n1\n;\n)\n;\n", 3).setting(3), 3);
        fails("9 letters", "abcdefghi 1;", 1, 0);
        fails("9 letters of a name", "charge abcdefghi 1;", 1, 7);
        fails("4 digits", "tick 0001;", 1, 5);
        fails("4 digits of a repeat", "repeat 0001();", 1, 7);
        WakeVillage named = Made.of("node abcdefgh born 1 energy 5; node abcdefgi born 1 energy 5;");
        runsOn(named, "names of 8 letters", "charge abcdefgi 1;", 1);
        Check.equal("the second of both", named.node(0, 2) * 10 + named.node(1, 2), 56);
    }

    private static void everyByte() {
        for (int b = 0; b < 256; b++) {
            String script = "tick 4" + (char) b + ";";
            if (b >= '0' && b <= '9') {
                Check.equal("byte " + b, runs("byte " + b, script, 1).setting(3), 40 + b - '0');
            } else if (b == 10 || b == 32) {
                Check.equal("byte " + b, runs("byte " + b, script, 1).setting(3), 4);
            } else {
                fails("byte " + b, script, 1, b == ';' ? 7 : 6);
            }
        }
    }

    private static void numbersFrom0To999() {
        String[] commands = {"tick", "send a b", "call a b", "shift a", "watch a", "charge a"};
        for (String command : commands) {
            runs(command + " 0 is read", command + " 0;", command.matches("shift a|watch a") ? 1 : 0);
            runs(command + " 999 is read", command + " 999;", command.matches("send.*|call.*|charge.*") ? 1 : 0);
            fails(command + " 1000", command + " 1000;", 1, command.length() + 1);
            fails(command + " without a number", command + ";", 1, command.length());
        }
    }

    private static void repeatFrom1To20() {
        Check.equal("repeat 1", runs("repeat 1", "repeat 1(tick 2;);", 1).setting(3), 2);
        Check.equal("repeat 20", runs("repeat 20", "repeat 20(tick 2;);", 20).setting(3), 40);
        fails("repeat 0", "repeat 0(tick 1;);", 2, 7);
        fails("repeat 21", "repeat 21(tick 1;);", 2, 7);
        fails("repeat 999", "repeat 999(tick 1;);", 2, 7);
        fails("repeat 0 within another", "repeat 1(repeat 0(tick 1;););", 2, 16);
        fails("repeat 21 within another", "repeat 1(repeat 21(tick 1;););", 2, 16);
        Check.equal("1 in 1", runs("1 in 1", "repeat 1(repeat 1(tick 2;););", 1).setting(3), 2);
        Check.equal("2 in 20", runs("2 in 20", "repeat 20(repeat 2(tick 2;););", 40).setting(3), 80);
        Check.equal("20 in 2", runs("20 in 2", "repeat 2(repeat 20(tick 2;););", 40).setting(3), 80);
    }

    private static String firstOf(int many) {
        StringBuilder text = new StringBuilder();
        for (int i = 0; i < many; i++) {
            text.append(i > 0 ? " " : "").append(WHOLE[i]);
        }
        return text.toString();
    }

    private static int openIn(int many) {
        int open = 0;
        for (int i = 0; i < many; i++) {
            open += WHOLE[i].equals("(") ? 1 : WHOLE[i].equals(")") ? -1 : 0;
        }
        return open;
    }

    private static boolean isBetweenCommands(int many) {
        return many == 0 || WHOLE[many - 1].equals(";") || WHOLE[many - 1].equals("(");
    }

    private static void endsTooEarly() {
        for (int many = 0; many <= WHOLE.length; many++) {
            String script = firstOf(many);
            if (isBetweenCommands(many) && openIn(many) == 0) {
                String outcome = Check.outcome(() -> Made.run(Made.of(Made.CHAIN), script));
                Check.equal("ends well: " + script, outcome.matches("[0-9]+"), true);
            } else {
                fails("ends too early: " + script, script, 1, script.length());
                fails("ends too early, with blanks: " + script, script + "\n ", 1, script.length() + 2);
            }
        }
    }

    private static void whatTheGrammarDoesNotAllow() {
        String[] never = {"?", "abcdefghi", "1234", "year", "node", "(", ")", ";", "7", "tick"};
        for (int many = 0; many < WHOLE.length; many++) {
            String before = firstOf(many) + (many > 0 ? " " : "");
            boolean isBetween = isBetweenCommands(many);
            boolean isName = WHOLE[many].matches("[abc]");
            for (String token : never) {
                boolean isHere = token.equals(WHOLE[many]) || isBetween && token.equals("tick")
                        || token.equals("7") && WHOLE[many].matches("[0-9]+")
                        || isBetween && token.equals(")") && openIn(many) > 0;
                boolean isUnknown = isName && token.matches("year|node|tick");
                if (!isHere) {
                    fails("not here: " + before + token, before + token, isUnknown ? 4 : 1, before.length());
                }
            }
        }
    }

    private static void repeatWithinTwoOthers() {
        Check.equal("a repeat within one other", runs("one", "repeat 2(repeat 2(tick 1;););", 4).setting(3), 4);
        fails("a repeat within two others", "repeat 2(repeat 2(repeat 2(tick 1;);););", 3, 18);
        fails("its first word, whatever follows", "repeat 2(repeat 2(repeat", 3, 18);
        fails("behind a command", "repeat 2(repeat 2(tick 1;repeat 2(tick 1;);););", 3, 25);
        fails("in a second one within one", "repeat 2(repeat 2();repeat 2(repeat 2();););", 3, 29);
        Check.equal("three side by side within one",
                runs("three", "repeat 2(repeat 2(tick 1;);repeat 1(tick 1;);repeat 3(tick 1;););", 12).setting(3), 12);
        Check.equal("one behind two that are closed",
                runs("closed", "repeat 2(repeat 2(tick 1;););repeat 2(repeat 2(tick 1;););", 8).setting(3), 8);
    }

    private static void namesThatNoNodeHas() {
        String[] commands = {"send", "call", "shift", "watch", "charge"};
        for (String command : commands) {
            fails(command + " of no node", command + " z 1;", 4, command.length() + 1);
            fails(command + " of a longer name", command + " aa 1;", 4, command.length() + 1);
        }
        fails("send to no node", "send a z 1;", 4, 7);
        fails("call to no node", "call a z 1;", 4, 7);
        fails("the first of two", "send y z 1;", 4, 5);
        fails("in a repeat", "repeat 1(charge z 1;);", 4, 16);
        WakeVillage none = new WakeVillage();
        Made.feed(none, "charge a 1;");
        Check.argument("no nodes at all", () -> none.runScript());
        Check.equal("no nodes at all: code and position", none.errorCode() + " " + none.errorPosition(), "4 7");
        runsOn(none, "no nodes at all, no names", "tick 9;", 1);
    }

    private static void atMost30Commands() {
        String thirty = "tick 1;".repeat(30);
        Check.equal("30 commands", runs("30 commands", thirty, 30).setting(3), 30);
        fails("a 31st command", thirty + "tick 1;", 5, 210);
        fails("the first word of a 31st command, whatever follows", thirty + "charge ?", 5, 210);
        fails("a 31st command that is a repeat", thirty + "repeat 1();", 5, 210);
        String inOne = "repeat 1(" + "tick 1;".repeat(29);
        Check.equal("29 commands in a repeat", runs("29 in a repeat", inOne + ");", 29).setting(3), 29);
        fails("30 commands in a repeat", inOne + "tick 1;);", 5, 212);
        fails("a repeat of 29 commands, and one behind", inOne + ");tick 1;", 5, 214);
        Check.equal("30 repeats", runs("30 repeats", "repeat 1();".repeat(30), 0).setting(3), 0);
        fails("31 repeats", "repeat 1();".repeat(31), 5, 330);
        Check.equal("blanks behind 30", runs("blanks behind 30", thirty + " \n", 30).setting(3), 30);
        fails("an end too early behind 30", thirty.substring(0, 209), 1, 209);
    }

    private static void theLowestCode() {
        String thirty = "tick 1;".repeat(30);
        fails("no command, as a 31st", thirty + "foo 1;", 1, 210);
        fails("an invalid token, as a 31st", thirty + "?", 1, 210);
        fails("a parenthesis, as a 31st", thirty + ")", 1, 210);
        String deep = "repeat 1(repeat 1(" + "tick 1;".repeat(28);
        fails("a repeat within two others, as a 31st command", deep + "repeat 1(", 3, 214);
        fails("another command there", deep + "tick 1;", 5, 214);
        fails("a repeat within two others that may not stand here", "repeat 1(repeat 1(tick 1 repeat", 1, 25);
        fails("a name that no node has that may not stand here", "tick z;", 1, 5);
        fails("a number out of range that may not stand here", "repeat 2 21();", 1, 9);
        fails("the first error from left to right", "charge z 1; ?", 4, 7);
    }

    private static void endsAtTick() {
        Check.equal("tick 0", runs("tick 0", "tick 5;tick 0;tick 9;", 1).setting(3), 5);
        Check.equal("tick 1", runs("tick 1", "tick 5;tick 1;tick 9;", 3).setting(3), 15);
        Check.equal("tick 99", runs("tick 99", "tick 5;tick 99;tick 9;", 3).setting(3), 113);
        Check.equal("tick 100", runs("tick 100", "tick 5;tick 100;tick 9;", 1).setting(3), 5);
        WakeVillage late = new WakeVillage();
        runsOn(late, "to 3960", "repeat 2(repeat 20(tick 99;););", 40);
        runsOn(late, "to 7920", "repeat 2(repeat 20(tick 99;););", 40);
        runsOn(late, "to 9900", "repeat 20(tick 99;);", 20);
        runsOn(late, "the time would be 10000", "tick 98;tick 2;tick 1;", 1);
        Check.equal("the commands before stay done", late.setting(3), 9998);
        runsOn(late, "to 9999", "tick 1;", 1);
        runsOn(late, "no more", "tick 1;", 0);
        Check.equal("9999", late.setting(3), 9999);
    }

    private static void endsAtSend() {
        for (String command : new String[] {"send", "call"}) {
            Check.equal(command + " within 0", runs("0", command + " a b 0;tick 1;", 0).setting(3), 0);
            Check.equal(command + " within 1", runs("1", command + " a b 1;tick 1;", 2).message(0, 4), 1);
            Check.equal(command + " within 999", runs("999", command + " a b 999;tick 1;", 2).message(0, 4), 999);
            Check.equal(command + " to itself", runs("itself", command + " a a 5;tick 1;", 0).setting(4), 0);
            WakeVillage out = Made.of("node a born 1 energy 1;node b born 5 energy 9;");
            out.tick(1);
            runsOn(out, command + " from an out node", command + " a b 5;tick 1;", 0);
            runsOn(out, command + " to an out node", command + " b a 5;tick 1;", 0);
            runsOn(out, command + " to a charged one", "charge a 5;" + command + " b a 5;tick 1;", 3);
            WakeVillage full = Made.of(Made.CHAIN);
            runsOn(full, "40 sent", "repeat 2(repeat 20(send a b 5;););", 40);
            runsOn(full, "a 61st by " + command, "repeat 2(repeat 20(" + command + " a b 5;););", 20);
            Check.equal("60 sent", full.setting(4), 60);
        }
    }

    private static void endsAtShiftWatchCharge() {
        Check.equal("shift 0", runs("shift 0", "shift b 0;tick 1;", 2).node(1, 1), 0);
        Check.equal("shift 9", runs("shift 9", "shift b 9;tick 1;", 2).node(1, 1), 9);
        Check.equal("shift 10, the year", runs("shift 10", "shift b 10;tick 1;", 0).node(1, 1), 2);
        Check.equal("watch 0", runs("watch 0", "watch a 0;tick 1;", 2).inTable(0, 0), true);
        Check.equal("watch 9", runs("watch 9", "watch a 9;tick 1;", 2).inTable(0, 9), true);
        Check.equal("watch 10, the year", runs("watch 10", "watch a 10;tick 1;", 0).setting(3), 0);
        Check.equal("watch that returns false", runs("false", "tick 2;watch a 9;watch a 9;tick 1;", 2).setting(3), 2);
        Check.equal("watch of a birthday, in its table anyway", runs("anyway", "watch a 1;tick 1;", 2).setting(3), 1);
        Check.equal("charge 0", runs("charge 0", "charge a 0;tick 1;", 0).node(0, 2), 50);
        Check.equal("charge 1", runs("charge 1", "charge a 1;tick 2;", 2).node(0, 2), 50);
        Check.equal("charge 999", runs("charge 999", "charge a 999;tick 2;", 2).node(0, 2), 1048);
        Check.equal("charge to 9999 does not end it", runs("9999", "repeat 12(charge a 999;);tick 2;", 13).node(0, 2), 9998);
    }

    private static void endsAsAWhole() {
        WakeVillage x = runs("within two repeats", "repeat 3(charge c 1;repeat 3(tick 1;watch a 9;);charge c 5;);charge c 9;", 4);
        Check.equal("what was done stays: ticks", x.setting(3), 2);
        Check.equal("what was done stays: charges, and a wake at 1 or 3", x.node(2, 2), 31);
        Check.equal("what was done stays: watched", x.inTable(0, 9), true);
        Check.equal("it can be undone as a whole", x.undo() * 100 + x.setting(3) + x.node(2, 2), 30);
        Check.equal("at the first command", runs("first", "tick 0;tick 1;", 0).setting(10), 1);
        Check.equal("at the last command", runs("last", "tick 1;tick 0;", 1).setting(3), 1);
        Check.equal("at the last of a round", runs("round", "repeat 2(tick 1;tick 0;);tick 1;", 1).setting(3), 1);
    }

    private static void at40Commands() {
        Check.equal("39", runs("39", "repeat 13(tick 1;tick 1;tick 1;);", 39).setting(3), 39);
        Check.equal("40", runs("40", "repeat 20(tick 1;tick 1;);", 40).setting(3), 40);
        Check.equal("a 41st", runs("41", "repeat 20(tick 1;tick 1;);tick 1;", 40).setting(3), 40);
        Check.equal("in the midst of a round", runs("midst", "repeat 14(tick 1;tick 1;tick 1;);", 40).setting(3), 40);
        Check.equal("in the midst of two", runs("two", "repeat 20(repeat 20(tick 1;);charge a 1;);", 40).setting(3), 39);
        Check.equal("a 41st that would end it", runs("ends", "repeat 20(tick 1;tick 1;);tick 0;", 40).setting(3), 40);
        Check.equal("repeat not counted", runs("not counted", "repeat 20(repeat 1(tick 1;);repeat 1(tick 1;););", 40).setting(3), 40);
        Check.equal("the next script counts anew", again(), 80);
    }

    private static int again() {
        WakeVillage x = runs("40", "repeat 20(tick 1;tick 1;);", 40);
        runsOn(x, "40 again", "repeat 20(tick 1;tick 1;);", 40);
        return x.setting(3);
    }

    private static void repeatsOfNothing() {
        Check.equal("nothing", runs("nothing", "repeat 20();tick 1;", 1).setting(3), 1);
        Check.equal("nothing in nothing", runs("nothing twice", "repeat 20(repeat 20(););tick 1;", 1).setting(3), 1);
        Check.equal("much of nothing",
                runs("much", "repeat 20(" + "repeat 20();".repeat(28) + ");tick 1;", 1).setting(3), 1);
        Check.equal("nothing in front of something",
                runs("front", "repeat 3(repeat 20();tick 1;repeat 20(););tick 1;", 4).setting(3), 4);
    }
}
