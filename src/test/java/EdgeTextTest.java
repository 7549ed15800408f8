/** Term 1 of the document, sentence by sentence: what a text and its errors are at their edges. */
final class EdgeTextTest {
    private static final String A = "node a born 1 energy 5;";
    private static final String AB = A + "node b born 2 energy 5;";
    private static final String[] WHOLE = ("year 10 ; costs 1 2 3 ; miss 4 ; node a born 1 shift 2 energy 3 ; "
            + "node b born 4 energy 5 ; link a b ;").split(" ");

    private EdgeTextTest() {
    }

    static void run() {
        atMost600Bytes();
        wordsOfAtMost8Letters();
        numbersOfAtMost3Digits();
        blanks();
        everyByte();
        yearCostsMiss();
        eachOnceAnywhere();
        nodes();
        atMost10Nodes();
        links();
        atMost16Links();
        endsTooEarly();
        whatTheGrammarDoesNotAllow();
        theFirstError();
        theLowestCode();
        toldBefore();
        thatNoNodeToldBeforeHas();
    }

    private static WakeVillage reads(String sentence, String text) {
        WakeVillage x = new WakeVillage();
        Made.feed(x, text);
        Check.equal(sentence, Check.outcome(() -> x.readText()).matches("[0-9]+"), true);
        Check.equal(sentence + ": no code", x.errorCode(), 0);
        Check.equal(sentence + ": no position", x.errorPosition(), WakeVillage.NONE);
        return x;
    }

    private static void fails(String sentence, String text, int code, int position) {
        WakeVillage x = new WakeVillage();
        Made.feed(x, text);
        Check.argument(sentence, () -> x.readText());
        Check.equal(sentence + ": code and position", x.errorCode() + " " + x.errorPosition(), code + " " + position);
    }

    private static void atMost600Bytes() {
        Check.equal("600 bytes are read", reads("600 bytes", " ".repeat(592) + "year 13;").setting(2), 13);
        fails("an error in byte 599", " ".repeat(599) + "?", 1, 599);
        fails("an end behind byte 599", " ".repeat(596) + "year", 1, 600);
        Check.equal("a text of no bytes", reads("no bytes", "").setting(0), 0);
    }

    private static void wordsOfAtMost8Letters() {
        WakeVillage x = reads("8 letters", "node abcdefgh born 1 energy 5; node abcdefgi born 1 energy 5;");
        Check.equal("the 8th letter tells names apart", x.letter(0, 7) * 1000 + x.letter(1, 7), 'h' * 1000 + 'i');
        Check.equal("1 letter", reads("1 letter", A).letter(0, 1), 0);
        fails("9 letters", "node abcdefghi born 1 energy 5;", 1, 5);
        fails("9 letters in place of a statement", " abcdefghi 5;", 1, 1);
        fails("9 letters in place of born", "node a bornnnnnn 1 energy 5;", 1, 7);
        fails("9 letters in a link", A + "link abcdefghi a;", 1, 28);
        fails("600 letters", "a".repeat(600), 1, 0);
        fails("a run is maximal: two words at once", "yearmiss 4;", 1, 0);
        fails("capital letters are none", "YEAR 12;", 1, 0);
        fails("a capital letter ends a run", "node aA born 1 energy 5;", 1, 6);
    }

    private static void numbersOfAtMost3Digits() {
        Check.equal("3 digits", reads("3 digits", "year 012;").setting(2), 12);
        Check.equal("3 digits of energy", reads("999", "node a born 000 energy 999;").node(0, 2), 999);
        fails("4 digits", "year 0012;", 1, 5);
        fails("4 digits of energy", "node a born 1 energy 1000;", 1, 21);
        fails("600 digits", "1".repeat(600), 1, 0);
        fails("11 digits, 4 by the remainder of an int", "year 4294967300;", 1, 5);
        fails("a run is maximal: two numbers at once", "costs 123;", 2, 6);
    }

    private static void blanks() {
        Check.equal("blanks before, between and behind",
                reads("blanks", "\n \nyear \n\n  13 \n;\n \n").setting(2), 13);
        Check.equal("blanks alone", reads("blanks alone", " \n \n").setting(2), 12);
        Check.equal("no blank between a word and a number",
                Made.nodeOf(reads("side by side", "year9;costs1 2 3;miss4;node a born1shift2energy3;"), 0),
                "1 2 3 2 0 0 0 0 0 1 0");
        fails("a blank within a word", "ye ar 12;", 1, 0);
        fails("a blank within a number", "year 4 2;", 1, 7);
        fails("a line feed within a word", "node a bo\nrn 1 energy 5;", 1, 7);
    }

    /** Behind "year 4" only a digit, a blank, a line feed and a semicolon may stand, the last not twice. */
    private static void everyByte() {
        for (int b = 0; b < 256; b++) {
            String text = "year 4" + (char) b + ";";
            if (b >= '0' && b <= '9') {
                Check.equal("byte " + b, reads("byte " + b, text).setting(2), 40 + b - '0');
            } else if (b == 10 || b == 32) {
                Check.equal("byte " + b, reads("byte " + b, text).setting(2), 4);
            } else {
                fails("byte " + b, text, 1, b == ';' ? 7 : 6);
            }
            boolean isLetter = b >= 'a' && b <= 'z';
            String named = "node x" + (char) b + " born 1 energy 5;";
            if (isLetter || b == 10 || b == 32) {
                Check.equal("byte " + b + " of a name", reads("name", named).letter(0, 1), isLetter ? b : 0);
            } else {
                fails("byte " + b + " of a name", named, 1, 6);
            }
        }
    }

    private static void yearCostsMiss() {
        Check.equal("year 4", reads("year 4", "year 4;").setting(2), 4);
        Check.equal("year 60", reads("year 60", "year 60;").setting(2), 60);
        fails("year 3", "year 3;", 2, 5);
        fails("year 0", "year 0;", 2, 5);
        fails("year 61", "year 61;", 2, 5);
        fails("year 999", "year 999;", 2, 5);
        Check.equal("12 without it", reads("no year", "miss 1;").setting(2), 12);
        Check.equal("miss 1", reads("miss 1", "miss 1;").setMiss(2), 1);
        Check.equal("miss 9", reads("miss 9", "miss 9;").setMiss(2), 9);
        fails("miss 0", "miss 0;", 2, 5);
        fails("miss 10", "miss 10;", 2, 5);
        Check.equal("3 without it", reads("no miss", "year 4;").setMiss(2), 3);
        fails("costs 100 to wake", "costs 100 0 0;", 2, 6);
        fails("costs 100 to pass", "costs 0 100 0;", 2, 8);
        fails("costs 100 to call", "costs 0 0 100;", 2, 10);
        costs("0 each", "costs 0 0 0;", 0, 0, 0);
        costs("99 each", "costs 99 99 99;", 99, 99, 99);
        costs("99 to wake alone", "costs 99 0 0;", 99, 0, 0);
        costs("99 to pass alone", "costs 0 99 0;", 0, 99, 0);
        costs("99 to call alone", "costs 0 0 99;", 0, 0, 99);
        costs("1, 2 and 5 without it", "", 1, 2, 5);
    }

    /** Both wake at 1 and pass a message; at 2 both sleep, and one calls. */
    private static void costs(String sentence, String text, int wake, int pass, int call) {
        WakeVillage x = reads(sentence, text + "node a born 1 energy 999; node b born 1 energy 999; link a b;");
        x.tick(1);
        Check.equal(sentence + ": to wake", x.node(0, 2), 999 - wake);
        x.undo();
        x.send(0, 1, 9, false);
        x.tick(1);
        Check.equal(sentence + ": to pass", x.node(0, 2), 999 - wake - pass);
        Check.equal(sentence + ": to get", x.node(1, 2), 999 - wake - pass);
        x.send(0, 1, 9, true);
        x.tick(1);
        Check.equal(sentence + ": to call", x.node(0, 2), 999 - wake - pass - pass - call);
        Check.equal(sentence + ": to be called", x.node(1, 2), 999 - wake - pass - pass - call);
    }

    private static void eachOnceAnywhere() {
        String[] three = {"year 7;", "costs 9 9 9;", "miss 5;"};
        String[] rest = {A, "node b born 9 shift 8 energy 5;", "link a b;"};
        for (int i = 0; i < 3; i++) {
            for (int place = 0; place <= 3; place++) {
                StringBuilder text = new StringBuilder();
                for (int k = 0; k <= 3; k++) {
                    text.append(k == place ? three[i] : "").append(k < 3 ? rest[k] : "");
                }
                String sentence = three[i] + " in place " + place;
                WakeVillage x = reads(sentence, text.toString());
                Check.equal(sentence + ": year", x.setting(2), i == 0 ? 7 : 12);
                Check.equal(sentence + ": born", x.node(1, 0), i == 0 ? 2 : 9);
                Check.equal(sentence + ": shift", x.node(1, 1), i == 0 ? 1 : 8);
                Check.equal(sentence + ": energy behind a wake", x.energyIn(0, 1), i == 1 ? 0 : 4);
                Check.equal(sentence + ": misses", x.setMiss(1), i == 2 ? 5 : 3);
                fails(sentence + " twice", text + " " + three[i], 3, text.length() + 1);
            }
        }
    }

    private static void nodes() {
        WakeVillage x = reads("0 and 1", "year 60;node a born 0 shift 0 energy 1;node b born 59 shift 59 energy 999;");
        Check.equal("born 0, shift 0, energy 1", Made.nodeOf(x, 0), "0 0 1 0 1 0 0 0 0 1 0");
        Check.equal("born 59, shift 59, energy 999", Made.nodeOf(x, 1), "59 59 999 59 1 0 0 0 0 1 0");
        WakeVillage y = reads("remainders", "node a born 12 shift 11 energy 1; node b born 11 shift 12 energy 1;"
                + "node c born 59 shift 59 energy 1; node d born 13 energy 1;");
        Check.equal("born the year is 0", y.node(0, 0), 0);
        Check.equal("shift one less than the year", y.node(0, 1), 11);
        Check.equal("born one less than the year", y.node(1, 0), 11);
        Check.equal("shift the year is 0", y.node(1, 1), 0);
        Check.equal("59 by 12 is 11", y.node(2, 0) * 100 + y.node(2, 1), 1111);
        Check.equal("born one more than the year", y.node(3, 0), 1);
        Check.equal("no shift: 0", y.node(3, 1), 0);
        WakeVillage z = reads("year 4", "node a born 59 shift 58 energy 1; year 4;");
        Check.equal("59 by 4 is 3, 58 is 2", z.node(0, 0) * 100 + z.node(0, 1), 302);
        fails("born 60", "node a born 60 energy 5;", 2, 12);
        fails("born 60 in a year of 60", "year 60;node a born 60 energy 5;", 2, 20);
        fails("shift 60", "node a born 1 shift 60 energy 5;", 2, 20);
        fails("energy 0", "node a born 1 energy 0;", 2, 21);
        fails("energy 0 behind a shift", "node a born 1 shift 1 energy 0;", 2, 29);
        fails("a number in place of born", "node a 1 energy 5;", 1, 7);
        fails("a number in place of energy", "node a born 1 5;", 1, 14);
        fails("a number in place of energy behind a shift", "node a born 1 shift 1 5;", 1, 22);
        fails("shift behind energy", "node a born 1 energy 5 shift 1;", 1, 23);
    }

    private static String nodes(int many) {
        StringBuilder text = new StringBuilder();
        for (int i = 0; i < many; i++) {
            text.append("node ").append((char) ('a' + i)).append(" born ").append(i).append(" energy 5;");
        }
        return text.toString();
    }

    private static void atMost10Nodes() {
        WakeVillage x = reads("10 nodes", nodes(10));
        Check.equal("numbered from 0", x.letter(0, 0) * 1000 + x.letter(9, 0), 'a' * 1000 + 'j');
        Check.equal("10 nodes", x.setting(0), 10);
        fails("an 11th node", nodes(10) + "node k born 1 energy 5;", 5, 230);
        fails("the first word of an 11th node, whatever follows", nodes(10) + "node", 5, 230);
        fails("an 11th node of a name told before", nodes(10) + "node a", 5, 230);
        fails("an 11th node where none may stand", nodes(10) + "year 9 node", 1, 237);
    }

    private static void links() {
        WakeVillage x = reads("a link", AB + "link b a;");
        Check.equal("a link of two different nodes", Made.linkOf(x, 0), "1 0 0 0 0");
        fails("a link of a node with itself", AB + "link b b;", 3, 53);
        fails("a second link of two nodes", AB + "link a b;link a b;", 3, 62);
        fails("a second link of two nodes, the other way", AB + "link a b;link b a;", 3, 62);
        reads("two links of a node with two", AB + "node c born 3 energy 5;link a b;link a c;link c b;");
    }

    private static String fifteenLinks() {
        StringBuilder text = new StringBuilder();
        for (int i = 0; i < 6; i++) {
            for (int k = 0; k < i; k++) {
                text.append("link ").append((char) ('a' + i)).append(' ').append((char) ('a' + k)).append(';');
            }
        }
        return text.toString();
    }

    private static void atMost16Links() {
        String sixteen = nodes(10) + fifteenLinks() + "link j i;";
        WakeVillage x = reads("16 links", sixteen);
        Check.equal("16 links", x.setting(1), 16);
        Check.equal("numbered from 0", Made.linkOf(x, 0), "1 0 0 0 0");
        Check.equal("to 15", Made.linkOf(x, 15), "9 8 0 0 0");
        fails("a 17th link", sixteen + "link h i;", 5, sixteen.length());
        fails("the first word of a 17th link, whatever follows", sixteen + "link", 5, sixteen.length());
        fails("a 17th link of an unknown name", sixteen + "link zz zz;", 5, sixteen.length());
        fails("a 17th link of nodes with a link", sixteen + "link b a;", 5, sixteen.length());
        fails("a 17th link where none may stand", sixteen + "miss link", 1, sixteen.length() + 5);
        fails("16 links and an 11th node", sixteen + "node k", 5, sixteen.length());
    }

    private static String firstOf(int many) {
        StringBuilder text = new StringBuilder();
        for (int i = 0; i < many; i++) {
            text.append(i > 0 ? " " : "").append(WHOLE[i]);
        }
        return text.toString();
    }

    private static void endsTooEarly() {
        for (int many = 0; many <= WHOLE.length; many++) {
            String text = firstOf(many);
            if (many == 0 || WHOLE[many - 1].equals(";")) {
                reads("ends well: " + text, text);
                reads("ends well, with blanks: " + text, text + "\n ");
            } else {
                fails("ends too early: " + text, text, 1, text.length());
                fails("ends too early, with blanks: " + text, text + " \n ", 1, text.length() + 3);
            }
        }
    }

    private static void whatTheGrammarDoesNotAllow() {
        String[] never = {"(", ")", "?", "abcdefghi", "1234", "tick", "send", "repeat"};
        for (int many = 0; many < WHOLE.length; many++) {
            String before = firstOf(many) + (many > 0 ? " " : "");
            for (int i = 0; i < never.length; i++) {
                boolean isName = i > 4 && many > 0 && (WHOLE[many - 1].equals("node"));
                boolean isUnknown = i > 4 && (many == WHOLE.length - 3 || many == WHOLE.length - 2);
                if (isUnknown) {
                    fails("no node of this name: " + before + never[i], before + never[i], 4, before.length());
                } else if (!isName) {
                    fails("not here: " + before + never[i], before + never[i], 1, before.length());
                }
            }
            boolean isNumber = WHOLE[many].matches("[0-9]+");
            if (!isNumber) {
                fails("no number here: " + before, before + "1", 1, before.length());
            }
            if (!WHOLE[many].equals(";")) {
                fails("no semicolon here: " + before, before + ";", 1, before.length());
            }
        }
    }

    private static void theFirstError() {
        fails("out of range before an invalid token", "year 3 ?", 2, 5);
        fails("an invalid token before out of range", "year ? 3", 1, 5);
        fails("out of range in the first statement", "year 3; year 4; year 5;", 2, 5);
        fails("a name told before, and then a number out of range", A + "node a born 99 energy 0;", 3, 28);
        fails("the first NAME and the second", AB + "link x y;", 4, 51);
        fails("an unknown second NAME", AB + "link a y;", 4, 53);
        fails("the first of three numbers", "costs 100 100 100;", 2, 6);
        fails("an 11th node before an error behind it", nodes(10) + "node ? ?", 5, 230);
        fails("a second year before its number", "year 4; year 99;", 3, 8);
    }

    private static void theLowestCode() {
        fails("a second year that may not stand here", "year 4 year 5;", 1, 7);
        fails("a number out of range that may not stand here", "year 4 999;", 1, 7);
        fails("a NAME that no node has that may not stand here", AB + "link a b zz;", 1, 55);
        fails("a NAME told before that may not stand here", A + "node b a;", 1, 30);
        fails("an invalid number, out of range too", "year 9999;", 1, 5);
        fails("a second costs that may not stand here", "costs 1 2 3; miss costs", 1, 18);
    }

    private static void toldBefore() {
        fails("the NAME of another node", A + "node a born 1 energy 5;", 3, 28);
        fails("the NAME of the latest of ten", nodes(9) + "node i", 3, nodes(9).length() + 5);
        fails("a second year", "year 9;year 9;", 3, 7);
        fails("a second costs", "costs 1 1 1;costs 1 1 1;", 3, 12);
        fails("a second miss", "miss 2;miss 2;", 3, 7);
        reads("one of each", "miss 2;costs 1 1 1;year 9;");
        WakeVillage x = reads("a year", "year 9;");
        Made.feed(x, "year 8;");
        Check.equal("a year in the next text", x.readText() * 100 + x.setting(2), 8);
    }

    private static void thatNoNodeToldBeforeHas() {
        fails("no node at all", "link a b;", 4, 5);
        fails("a node told behind, first", AB + "link c a;node c born 1 energy 5;", 4, 51);
        fails("a node told behind, second", AB + "link a c;node c born 1 energy 5;", 4, 53);
        fails("the beginning of a name", "node ab born 1 energy 5;node c born 1 energy 5;link c a;", 4, 54);
        fails("a longer name", AB + "link a bb;", 4, 53);
        WakeVillage x = reads("nodes", AB);
        Made.feed(x, "link a b;");
        Check.argument("nodes of the text before", () -> x.readText());
        Check.equal("nodes of the text before are not told", x.errorCode() + " " + x.errorPosition(), "4 5");
    }
}
