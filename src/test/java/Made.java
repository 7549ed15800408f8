import java.nio.charset.StandardCharsets;

/** Makes villages of texts, and shows all of one that can be asked. */
final class Made {
    /**
     * Tables: a {1, 3}, b {1, 3, 5}, c {3, 5}. Awake at 1: a b; 3: a b c; 5: c; 9: b; 11: a b;
     * the second miss in a row of b and c is at 11.
     */
    static final String CHAIN = "year 10; miss 2; node a born 1 energy 50; node b born 3 shift 2 energy 40; "
            + "node c born 5 energy 30; link a b; link b c;";

    private Made() {
    }

    static void feed(WakeVillage x, String text) {
        byte[] bytes = text.getBytes(StandardCharsets.ISO_8859_1);
        int[] words = new int[(bytes.length + 19) / 20 * 5];
        for (int i = 0; i < bytes.length; i++) {
            words[i / 4] |= (bytes[i] & 255) << 24 - i % 4 * 8;
        }
        for (int i = 0; i < words.length; i += 5) {
            x.feed(words[i], words[i + 1], words[i + 2], words[i + 3], words[i + 4]);
        }
        x.truncate(bytes.length);
    }

    static WakeVillage of(String text) {
        WakeVillage x = new WakeVillage();
        feed(x, text);
        x.readText();
        return x;
    }

    static int run(WakeVillage x, String script) {
        feed(x, script);
        return x.runScript();
    }

    static String reportOf(WakeVillage x) {
        StringBuilder text = new StringBuilder();
        int length = x.report();
        for (int i = 0; i < length; i++) {
            text.append((char) x.reportByte(i));
        }
        return text.toString();
    }

    static String nodeOf(WakeVillage x, int node) {
        StringBuilder text = new StringBuilder();
        for (int what = 0; what <= 10; what++) {
            text.append(x.node(node, what)).append(' ');
        }
        return text.toString().trim();
    }

    static String linkOf(WakeVillage x, int link) {
        StringBuilder text = new StringBuilder();
        for (int what = 0; what <= 4; what++) {
            text.append(x.link(link, what)).append(' ');
        }
        return text.toString().trim();
    }

    static String messageOf(WakeVillage x, int message) {
        StringBuilder text = new StringBuilder();
        for (int what = 0; what <= 7; what++) {
            text.append(x.message(message, what)).append(' ');
        }
        return text.toString().trim();
    }

    /** All that undo brings back, but how many changes can be undone. */
    static String allOf(WakeVillage x) {
        StringBuilder text = new StringBuilder();
        for (int what = 0; what <= 9; what++) {
            text.append(x.setting(what)).append(' ');
        }
        for (int i = 0; i < x.setting(0); i++) {
            text.append('\n');
            for (int k = 0; k < 8; k++) {
                text.append((char) (x.letter(i, k) == 0 ? '.' : x.letter(i, k)));
            }
            text.append(' ').append(nodeOf(x, i)).append(' ');
            for (int day = 0; day < x.setting(2); day++) {
                text.append(x.inTable(i, day) ? '+' : '-');
            }
        }
        for (int i = 0; i < x.setting(1); i++) {
            text.append('\n').append(linkOf(x, i));
        }
        for (int i = 0; i < x.setting(4); i++) {
            text.append('\n').append(messageOf(x, i));
        }
        return text.toString();
    }
}
