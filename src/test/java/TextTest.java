/** Promises 1 to 4, 6 and 7: a new object, the buffer, texts and their errors. */
final class TextTest {
    private static final String A = "node a born 1 energy 5; ";
    private static final String B = "node b born 2 energy 5; ";

    private TextTest() {
    }

    static void run() {
        newObject();
        feeding();
        truncating();
        goodTexts();
        badNumbers();
        badWords();
        badNodes();
        badLinks();
        tooMany();
        whatAnErrorLeaves();
        whatATextReplaces();
    }

    private static void newObject() {
        WakeVillage x = new WakeVillage();
        Check.equal("NONE", WakeVillage.NONE, -1);
        for (int what = 0; what <= 10; what++) {
            Check.equal("new setting " + what, x.setting(what), what == 2 ? 12 : 0);
        }
        Check.equal("new errorCode", x.errorCode(), 0);
        Check.equal("new errorPosition", x.errorPosition(), WakeVillage.NONE);
        Check.equal("new undo", x.undo(), WakeVillage.NONE);
        Check.equal("new meanEnergy", x.meanEnergy(), 0.0);
        Check.equal("new busiest", x.busiest(), 1);
        Check.equal("new report", x.report(), 0);
        Check.range("new reportByte", () -> x.reportByte(0));
        Check.state("new restore", () -> x.restore());
        Check.range("new node", () -> x.node(0, 0));
        Check.argument("new truncate", () -> x.truncate(1));
        Check.equal("new setMiss", x.setMiss(4), 3);
        Check.equal("new readText", new WakeVillage().readText(), 0);
        Check.equal("new runScript", new WakeVillage().runScript(), 0);
    }

    private static void feeding() {
        WakeVillage x = new WakeVillage();
        for (int i = 1; i <= 30; i++) {
            Check.equal("feed " + i, x.feed(0x20202020, 0x20202020, 0x20202020, 0x20202020, 0x20202020), 20 * i);
        }
        Check.state("feed above 600", () -> x.feed(0, 0, 0, 0, 0));
        Check.equal("feed that failed leaves 600", x.truncate(600), 600);
        x.truncate(581);
        Check.state("feed to 601", () -> x.feed(0, 0, 0, 0, 0));
        x.truncate(580);
        Check.equal("feed to 600", x.feed(0x20202020, 0x20202020, 0x20202020, 0x20202020, 0x20202020), 600);
        Check.equal("600 blanks", x.readText(), 0);
        WakeVillage y = new WakeVillage();
        // "miss", " 7; ", "year", " 9; ", "    "
        y.feed(0x6d697373, 0x20373b20, 0x79656172, 0x20393b20, 0x20202020);
        y.readText();
        Check.equal("bytes in order: year", y.setting(2), 9);
        Check.equal("bytes in order: miss", y.setMiss(1), 7);
        y.feed(0x2020202f, 0, 0, 0, 0);
        Check.argument("a byte in the fourth place", () -> y.readText());
        Check.equal("its place", y.errorPosition(), 3);
        y.feed(0x20202020, 0x2020ff20, 0, 0, 0);
        Check.argument("a byte above 127", () -> y.readText());
        Check.equal("its place", y.errorPosition(), 6);
    }

    private static void truncating() {
        WakeVillage x = new WakeVillage();
        Check.equal("truncate nothing", x.truncate(0), 0);
        x.feed(0x79656172, 0x20393b39, 0, 0, 0);
        Check.argument("truncate below 0", () -> x.truncate(-1));
        Check.argument("truncate above", () -> x.truncate(21));
        Check.argument("truncate far above", () -> x.truncate(Integer.MAX_VALUE));
        Check.argument("truncate far below", () -> x.truncate(Integer.MIN_VALUE));
        Check.equal("truncate to the same", x.truncate(20), 20);
        Check.equal("truncate", x.truncate(7), 7);
        Check.argument("truncate back", () -> x.truncate(8));
        x.readText();
        Check.equal("what was left", x.setting(2), 9);
        Check.argument("the buffer is empty behind readText", () -> x.truncate(1));
    }

    private static void good(String text, int nodes) {
        WakeVillage x = new WakeVillage();
        Made.feed(x, text);
        Check.equal("[" + text + "]", Check.outcome(() -> x.readText()), String.valueOf(nodes));
        Check.equal("[" + text + "] code", x.errorCode(), 0);
        Check.equal("[" + text + "] position", x.errorPosition(), WakeVillage.NONE);
        Check.equal("[" + text + "] nodes", x.setting(0), nodes);
    }

    private static void bad(String text, int code, int position) {
        WakeVillage x = new WakeVillage();
        Made.feed(x, text);
        Check.argument("[" + text + "]", () -> x.readText());
        Check.equal("[" + text + "] code", x.errorCode(), code);
        Check.equal("[" + text + "] position", x.errorPosition(), position);
    }

    private static void goodTexts() {
        good("", 0);
        good(" \n \n", 0);
        good("year4;", 0);
        good("year 60;costs 0 99 0;miss 1;", 0);
        good("costs 99 0 99;", 0);
        good("\nyear\n012\n;\nmiss 9 ; costs0 0 0;", 0);
        good("node abcdefgh born 59 shift 59 energy 999; year 4;", 1);
        good("node abcdefgh born 0 shift 0 energy 1; node abcdefg born0energy1;", 2);
        good("node node born 1 energy 5; node born born 1 energy 5; link node born;", 2);
        good("node shift born 1 shift 2 energy 5; node energy born 1 energy 5;", 2);
        good(A + B + "link a b;", 2);
        WakeVillage x = Made.of("node a born 59 shift 13 energy 7; node b born 10 energy 8; year 10;");
        Check.equal("born, by the year behind", x.node(0, 0), 9);
        Check.equal("shift, by the year behind", x.node(0, 1), 3);
        Check.equal("born that is the year", x.node(1, 0), 0);
        Check.equal("no shift", x.node(1, 1), 0);
        Check.equal("energy", x.node(1, 2), 8);
        Check.equal("a year without it", Made.of("node a born 13 shift 12 energy 7;").node(0, 0), 1);
    }

    private static void badNumbers() {
        bad("year 3;", 2, 5);
        bad("year 61;", 2, 5);
        bad("year 0012;", 1, 5);
        bad("year;", 1, 4);
        bad("year", 1, 4);
        bad("year 12", 1, 7);
        bad("year 12 \n", 1, 9);
        bad("year 99 ?", 2, 5);
        bad("year ? 99", 1, 5);
        bad("costs 100 0 0;", 2, 6);
        bad("costs 0 100 0;", 2, 8);
        bad("costs 0 0 100;", 2, 10);
        bad("costs 1 2;", 1, 9);
        bad("costs 1 2 3 4;", 1, 12);
        bad("miss 0;", 2, 5);
        bad("miss 10;", 2, 5);
        bad("miss -1;", 1, 5);
    }

    private static void badWords() {
        bad("foo;", 1, 0);
        bad("  12;", 1, 2);
        bad(";", 1, 0);
        bad("(", 1, 0);
        bad(")", 1, 0);
        bad("Year 12;", 1, 0);
        bad("fear 12;", 1, 0);
        bad("yeas 12;", 1, 0);
        bad("yearyearyear", 1, 0);
        bad("years 12;", 1, 0);
        bad("yea 12;", 1, 0);
        bad("year\t12;", 1, 4);
        bad("year 12;;", 1, 8);
        bad("year 12 miss 3;", 1, 8);
        bad("year 12; year 13;", 3, 9);
        bad("year 12; year", 3, 9);
        bad("costs 1 2 3; year 9; costs", 3, 21);
        bad("miss 3;miss 3;", 3, 7);
    }

    private static void badNodes() {
        bad("node", 1, 4);
        bad("node ;", 1, 5);
        bad("node 1 born 1 energy 5;", 1, 5);
        bad("node abcdefghi born 1 energy 5;", 1, 5);
        bad("node a energy 5;", 1, 7);
        bad("node a born energy 5;", 1, 12);
        bad("node a born 60 energy 5;", 2, 12);
        bad("node a born 1 shift 60 energy 5;", 2, 20);
        bad("node a born 1 shift energy 5;", 1, 20);
        bad("node a born 1 energy 0;", 2, 21);
        bad("node a born 1 energy 1000;", 1, 21);
        bad("node a born 1 shift 1 shift 1 energy 5;", 1, 22);
        bad("node a born 1;", 1, 13);
        bad("node a born 1 energy 5", 1, 22);
        bad(A + "node a born 99 energy 0;", 3, 29);
        bad(A + "node a", 3, 29);
    }

    private static void badLinks() {
        bad("link a b;", 4, 5);
        bad("link", 1, 4);
        bad("link ; b", 1, 5);
        bad(A + "link a b;" + B, 4, 31);
        bad(A + "link b a;", 4, 29);
        bad(A + "link a a;", 3, 31);
        bad(A + "link a 7;", 1, 31);
        bad(A + B + "link a b; link a b;", 3, 65);
        bad(A + B + "link a b; link b a;", 3, 65);
        bad(A + B + "link a b c;", 1, 57);
        bad(A + B + "link a", 1, 54);
        bad(A + B + "link aa b;", 4, 53);
    }

    private static String nodes(int many) {
        StringBuilder text = new StringBuilder();
        for (int i = 0; i < many; i++) {
            text.append("node ").append((char) ('a' + i)).append(" born 1energy 1;");
        }
        return text.toString();
    }

    private static void tooMany() {
        good(nodes(10), 10);
        bad(nodes(10) + "node a ?", 5, 220);
        bad(nodes(11), 5, 220);
        StringBuilder links = new StringBuilder();
        for (int i = 0; i < 6; i++) {
            for (int k = i + 1; k < 6; k++) {
                links.append("link ").append((char) ('a' + i)).append(' ').append((char) ('a' + k)).append(';');
            }
        }
        String sixteen = nodes(7) + links + "link a g;";
        WakeVillage x = Made.of(sixteen);
        Check.equal("16 links", x.setting(1), 16);
        Check.equal("the last link", Made.linkOf(x, 15), "0 6 0 0 0");
        bad(sixteen + "\nlink a a;", 5, sixteen.length() + 1);
    }

    private static void whatAnErrorLeaves() {
        WakeVillage x = Made.of(Made.CHAIN);
        x.tick(3);
        x.save();
        x.tick(2);
        x.report();
        String before = Made.allOf(x);
        Made.feed(x, "year 20; node z born 1 energy 5; year 21;");
        Check.argument("an error", () -> x.readText());
        Check.equal("an error: all stays", Made.allOf(x), before);
        Check.equal("an error: code", x.errorCode(), 3);
        Check.equal("an error: position", x.errorPosition(), 33);
        Check.argument("an error: the buffer is empty", () -> x.truncate(1));
        Check.equal("an error: undo stays", x.setting(10), 2);
        Check.equal("an error: the report stays", x.reportByte(0), (int) 'a');
        Check.equal("no error behind it", x.readText(), 0);
        Check.equal("the code is gone", x.errorCode(), 0);
        Check.equal("the position is gone", x.errorPosition(), WakeVillage.NONE);
    }

    /** Both wake at 1 and pass one; at 2 both sleep, and one calls. */
    private static void theCostsOf(WakeVillage x, String costs, int wake, int pass, int call) {
        Made.feed(x, costs + "year 5; node a born 1 energy 99; node b born 1 energy 99; link a b;");
        x.readText();
        x.send(0, 1, 9, false);
        x.tick(1);
        Check.equal("[" + costs + "] to wake and pass", x.node(1, 2), 99 - wake - pass);
        x.send(0, 1, 9, true);
        x.tick(1);
        Check.equal("[" + costs + "] to call", x.node(0, 2), 99 - wake - pass - pass - call);
    }

    private static void whatATextReplaces() {
        WakeVillage x = Made.of(Made.CHAIN);
        x.tick(12);
        x.watch(0, 7, true);
        x.send(0, 2, 9, false);
        x.save();
        String saved = Made.allOf(x);
        int length = x.report();
        Made.feed(x, Made.CHAIN);
        Check.equal("a text again", x.readText(), 3);
        Check.equal("a text replaces all", Made.allOf(x), Made.allOf(Made.of(Made.CHAIN)));
        Check.equal("a text forgets undo", x.undo(), WakeVillage.NONE);
        x.send(0, 1, 9, false);
        x.tick(1);
        Made.feed(x, Made.CHAIN);
        x.readText();
        x.send(1, 2, 8, true);
        Check.equal("a message behind a text", Made.messageOf(x, 0), "1 2 1 0 8 1 -1 0");
        Check.equal("the report stays", x.reportByte(length - 1), 10);
        Check.equal("what is saved stays", x.restore(), 12);
        Check.equal("all that was saved", Made.allOf(x), saved);
        Made.feed(x, "node z born 1 energy 5;");
        x.readText();
        Check.equal("costs and misses are as without a word", x.setMiss(9), 3);
        Check.equal("the year is as without a word", x.setting(2), 12);
        x.tick(1);
        Check.equal("it costs 1 to wake without a word", x.node(0, 2), 4);
        theCostsOf(x, "costs 9 8 7; miss 9;", 9, 8, 7);
        theCostsOf(x, "", 1, 2, 5);
        theCostsOf(x, "costs 0 0 0; miss 1;", 0, 0, 0);
        theCostsOf(x, "costs 3 4 6;", 3, 4, 6);
    }
}
