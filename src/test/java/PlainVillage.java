import java.util.ArrayDeque;
import java.util.ArrayList;
import java.util.Deque;
import java.util.HashMap;
import java.util.List;
import java.util.Map;
import java.util.TreeSet;

/**
 * The document once more, written from its words with the Java library and without a thought of
 * speed, to be compared with the class call by call.
 */
public final class PlainVillage {
    private static final int NEVER = Integer.MAX_VALUE;

    private static final class Being {
        String name;
        int born;
        int shift;
        int energy;
        int woke;
        int gave;
        int took;
        TreeSet<Integer> watched = new TreeSet<>();
    }

    private static final class Tie {
        int a;
        int b;
        int misses;
        int met;
        int missed;
    }

    private static final class Letter {
        int from;
        int to;
        int at;
        int state;
        int due;
        int there = -1;
        int passes;
        boolean urgent;
    }

    private static final class World {
        int year = 12;
        int wake = 1;
        int pass = 2;
        int call = 5;
        int miss = 3;
        int time;
        int taken;
        List<Being> beings = new ArrayList<>();
        List<Tie> ties = new ArrayList<>();
        List<Letter> letters = new ArrayList<>();

        World copy() {
            World w = new World();
            w.year = year;
            w.wake = wake;
            w.pass = pass;
            w.call = call;
            w.miss = miss;
            w.time = time;
            w.taken = taken;
            for (Being o : beings) {
                Being n = new Being();
                n.name = o.name;
                n.born = o.born;
                n.shift = o.shift;
                n.energy = o.energy;
                n.woke = o.woke;
                n.gave = o.gave;
                n.took = o.took;
                n.watched = new TreeSet<>(o.watched);
                w.beings.add(n);
            }
            for (Tie o : ties) {
                Tie n = new Tie();
                n.a = o.a;
                n.b = o.b;
                n.misses = o.misses;
                n.met = o.met;
                n.missed = o.missed;
                w.ties.add(n);
            }
            for (Letter o : letters) {
                Letter n = new Letter();
                n.from = o.from;
                n.to = o.to;
                n.at = o.at;
                n.state = o.state;
                n.due = o.due;
                n.there = o.there;
                n.passes = o.passes;
                n.urgent = o.urgent;
                w.letters.add(n);
            }
            return w;
        }

        boolean tied(int a, int b) {
            for (Tie t : ties) {
                if (t.a == a && t.b == b || t.a == b && t.b == a) {
                    return true;
                }
            }
            return false;
        }

        boolean out(int i) {
            return beings.get(i).energy == 0;
        }

        TreeSet<Integer> table(int i) {
            TreeSet<Integer> days = new TreeSet<>(beings.get(i).watched);
            days.add(beings.get(i).born);
            for (int k = 0; k < beings.size(); k++) {
                if (tied(i, k)) {
                    days.add(beings.get(k).born);
                }
            }
            return days;
        }

        int day(int i, int ticks) {
            return (time + ticks + beings.get(i).shift) % year;
        }

        boolean wakes(int i, int ticks) {
            return !out(i) && table(i).contains(day(i, ticks));
        }

        /** Hops of all pairs, over those that are not out; NEVER without a way. */
        int[][] ways() {
            int n = beings.size();
            int[][] d = new int[n][n];
            for (int i = 0; i < n; i++) {
                for (int k = 0; k < n; k++) {
                    d[i][k] = out(i) || out(k) ? NEVER : i == k ? 0 : tied(i, k) ? 1 : NEVER;
                }
            }
            for (int m = 0; m < n; m++) {
                for (int i = 0; i < n; i++) {
                    for (int k = 0; k < n; k++) {
                        if (d[i][m] != NEVER && d[m][k] != NEVER) {
                            d[i][k] = Math.min(d[i][k], d[i][m] + d[m][k]);
                        }
                    }
                }
            }
            return d;
        }

        int next(int at, int goal) {
            int[][] d = ways();
            int best = -1;
            for (int k = 0; k < beings.size(); k++) {
                if (tied(at, k) && !out(k) && d[k][goal] != NEVER && (best < 0 || d[k][goal] < d[best][goal])) {
                    best = k;
                }
            }
            return best;
        }

        int tickOnce() {
            int n = beings.size();
            time++;
            boolean[] awake = new boolean[n];
            int[] days = new int[n];
            for (int i = 0; i < n; i++) {
                Being x = beings.get(i);
                days[i] = day(i, 0);
                if (wakes(i, 0)) {
                    x.energy -= Math.min(wake, x.energy);
                    awake[i] = x.energy > 0;
                    x.woke += awake[i] ? 1 : 0;
                }
            }
            for (Tie t : ties) {
                if (out(t.a) || out(t.b)) {
                    continue;
                }
                if (awake[t.a] && awake[t.b]) {
                    t.met++;
                    t.misses = 0;
                    continue;
                }
                for (int one : new int[] {t.a, t.b}) {
                    if (awake[one] && (days[one] == beings.get(t.a).born || days[one] == beings.get(t.b).born)) {
                        t.misses++;
                        t.missed++;
                        if (t.misses >= miss) {
                            beings.get(Math.max(t.a, t.b)).shift = beings.get(Math.min(t.a, t.b)).shift;
                            t.misses = 0;
                            taken++;
                        }
                    }
                }
            }
            return passAll(awake);
        }

        private int passAll(boolean[] awake) {
            List<Letter> order = new ArrayList<>();
            for (Letter m : letters) {
                if (m.urgent) {
                    order.add(m);
                }
            }
            for (Letter m : letters) {
                if (!m.urgent) {
                    order.add(m);
                }
            }
            TreeSet<Integer> gave = new TreeSet<>();
            TreeSet<Integer> took = new TreeSet<>();
            int there = 0;
            for (Letter m : order) {
                int k = m.state == 0 ? next(m.at, m.to) : -1;
                if (k < 0 || gave.contains(m.at) || took.contains(k)) {
                    continue;
                }
                boolean both = awake[m.at] && awake[k];
                int cost = pass + (both ? 0 : call);
                Being giver = beings.get(m.at);
                Being taker = beings.get(k);
                if ((both || m.urgent) && giver.energy >= cost && taker.energy >= cost) {
                    giver.energy -= cost;
                    taker.energy -= cost;
                    giver.gave++;
                    taker.took++;
                    gave.add(m.at);
                    took.add(k);
                    m.at = k;
                    m.passes++;
                    if (k == m.to) {
                        m.state = 1;
                        m.there = time;
                        there++;
                    }
                }
            }
            for (Letter m : letters) {
                if (m.state == 0 && out(m.at)) {
                    m.state = 2;
                }
            }
            return there;
        }

        int meets(int a, int b) {
            for (int t = 1; t <= year; t++) {
                if (a != b && wakes(a, t) && wakes(b, t)) {
                    return t;
                }
            }
            return NEVER;
        }
    }

    /** An error of a text. */
    private static final class Fault extends RuntimeException {
        private static final long serialVersionUID = 1L;
        final int code;
        final int position;

        Fault(int code, int position) {
            this.code = code;
            this.position = position;
        }
    }

    private static final class Token {
        final String text;
        final int position;

        Token(String text, int position) {
            this.text = text;
            this.position = position;
        }

        boolean isWord() {
            return text.matches("[a-z]{1,8}");
        }

        boolean isNumber() {
            return text.matches("[0-9]{1,3}");
        }
    }

    /** Tokens one behind the other; an invalid one has the text "?", the end "". */
    private final class Tokens {
        private final List<Token> all = new ArrayList<>();
        private int at;

        Tokens() {
            String s = buffer.toString();
            int i = 0;
            while (i < s.length()) {
                char c = s.charAt(i);
                int end = i + 1;
                if (c == ' ' || c == '\n') {
                    i++;
                    continue;
                }
                String run = c >= 'a' && c <= 'z' ? "[a-z]" : c >= '0' && c <= '9' ? "[0-9]" : null;
                while (run != null && end < s.length() && s.substring(end, end + 1).matches(run)) {
                    end++;
                }
                String text = s.substring(i, end);
                all.add(new Token(text.matches("[a-z]{1,8}|[0-9]{1,3}|[;()]") ? text : "?", i));
                i = end;
            }
            all.add(new Token("", s.length()));
        }

        Token peek() {
            return all.get(at);
        }

        void fail(int code) {
            throw new Fault(code, peek().position);
        }

        void take(String text) {
            if (!peek().text.equals(text)) {
                fail(1);
            }
            at++;
        }

        int number(int least, int most) {
            if (!peek().isNumber()) {
                fail(1);
            }
            int value = Integer.parseInt(peek().text);
            if (value < least || value > most) {
                fail(2);
            }
            at++;
            return value;
        }

        int known(World w) {
            if (!peek().isWord()) {
                fail(1);
            }
            for (int i = 0; i < w.beings.size(); i++) {
                if (w.beings.get(i).name.equals(peek().text)) {
                    return i;
                }
            }
            fail(4);
            return -1;
        }
    }

    private World now = new World();
    private World saved;
    private final Deque<World> undone = new ArrayDeque<>();
    private StringBuilder buffer = new StringBuilder();
    private StringBuilder latest = new StringBuilder();
    private int code;
    private int position = -1;
    private int done;

    public int feed(int a, int b, int c, int d, int e) {
        if (buffer.length() > 580) {
            throw new IllegalStateException();
        }
        for (int word : new int[] {a, b, c, d, e}) {
            for (int k = 3; k >= 0; k--) {
                buffer.append((char) (word >>> 8 * k & 255));
            }
        }
        return buffer.length();
    }

    public int truncate(int n) {
        if (n < 0 || n > buffer.length()) {
            throw new IllegalArgumentException();
        }
        buffer.setLength(n);
        return n;
    }

    private void failed(Fault fault) {
        buffer.setLength(0);
        code = fault.code;
        position = fault.position;
        throw new IllegalArgumentException();
    }

    public int readText() {
        World w = new World();
        try {
            parse(new Tokens(), w);
        } catch (Fault fault) {
            failed(fault);
        }
        buffer.setLength(0);
        code = 0;
        position = -1;
        undone.clear();
        now = w;
        return w.beings.size();
    }

    private void parse(Tokens t, World w) {
        TreeSet<String> told = new TreeSet<>();
        while (!t.peek().text.isEmpty()) {
            String word = t.peek().text;
            if (!word.matches("year|costs|miss|node|link")) {
                t.fail(1);
            }
            if (word.matches("year|costs|miss") && !told.add(word)) {
                t.fail(3);
            }
            if (word.equals("node") && w.beings.size() == 10 || word.equals("link") && w.ties.size() == 16) {
                t.fail(5);
            }
            t.take(word);
            switch (word) {
                case "year":
                    w.year = t.number(4, 60);
                    break;
                case "costs":
                    w.wake = t.number(0, 99);
                    w.pass = t.number(0, 99);
                    w.call = t.number(0, 99);
                    break;
                case "miss":
                    w.miss = t.number(1, 9);
                    break;
                case "node":
                    parseNode(t, w);
                    break;
                default:
                    parseLink(t, w);
            }
            t.take(";");
        }
        for (Being x : w.beings) {
            x.born %= w.year;
            x.shift %= w.year;
        }
    }

    private void parseNode(Tokens t, World w) {
        Being x = new Being();
        if (!t.peek().isWord()) {
            t.fail(1);
        }
        x.name = t.peek().text;
        for (Being other : w.beings) {
            if (other.name.equals(x.name)) {
                t.fail(3);
            }
        }
        t.take(x.name);
        t.take("born");
        x.born = t.number(0, 59);
        if (t.peek().text.equals("shift")) {
            t.take("shift");
            x.shift = t.number(0, 59);
        }
        t.take("energy");
        x.energy = t.number(1, 999);
        w.beings.add(x);
    }

    private void parseLink(Tokens t, World w) {
        Tie x = new Tie();
        x.a = t.known(w);
        t.at++;
        x.b = t.known(w);
        if (x.a == x.b || w.tied(x.a, x.b)) {
            t.fail(3);
        }
        t.at++;
        w.ties.add(x);
    }

    /** A command, of which a repeat has others inside. */
    private static final class Order {
        String word;
        int a;
        int b;
        int n;
        List<Order> inner;
    }

    private List<Order> parseScript(Tokens t, int depth, int[] count) {
        List<Order> orders = new ArrayList<>();
        while (!t.peek().text.isEmpty() && !t.peek().text.equals(")")) {
            Order x = new Order();
            x.word = t.peek().text;
            if (!x.word.matches("tick|send|call|shift|watch|charge|repeat")) {
                t.fail(1);
            }
            if (x.word.equals("repeat") && depth == 2) {
                t.fail(3);
            }
            count[0]++;
            if (count[0] > 30) {
                t.fail(5);
            }
            t.take(x.word);
            if (x.word.equals("repeat")) {
                x.n = t.number(1, 20);
                t.take("(");
                x.inner = parseScript(t, depth + 1, count);
                t.take(")");
            } else {
                if (!x.word.equals("tick")) {
                    x.a = t.known(now);
                    t.at++;
                }
                if (x.word.matches("send|call")) {
                    x.b = t.known(now);
                    t.at++;
                }
                x.n = t.number(0, 999);
            }
            t.take(";");
            orders.add(x);
        }
        if (depth == 0 && !t.peek().text.isEmpty()) {
            t.fail(1);
        }
        return orders;
    }

    public int runScript() {
        List<Order> orders = null;
        try {
            orders = parseScript(new Tokens(), 0, new int[1]);
        } catch (Fault fault) {
            failed(fault);
        }
        buffer.setLength(0);
        code = 0;
        position = -1;
        World before = now.copy();
        Deque<World> kept = new ArrayDeque<>(undone);
        done = 0;
        runAll(orders);
        undone.clear();
        undone.addAll(kept);
        keep(before);
        return done;
    }

    private boolean runAll(List<Order> orders) {
        for (Order x : orders) {
            if (x.inner != null) {
                for (int i = 0; i < x.n; i++) {
                    if (!runAll(x.inner)) {
                        return false;
                    }
                }
                continue;
            }
            if (done == 40) {
                return false;
            }
            try {
                boolean went = true;
                switch (x.word) {
                    case "tick": tick(x.n); break;
                    case "send": send(x.a, x.b, x.n, false); break;
                    case "call": send(x.a, x.b, x.n, true); break;
                    case "shift": setShift(x.a, x.n); break;
                    case "watch": went = watch(x.a, x.n, true); break;
                    default: charge(x.a, x.n);
                }
                if (!went) {
                    return false;
                }
            } catch (IllegalArgumentException | IllegalStateException e) {
                return false;
            }
            done++;
        }
        return true;
    }

    public int errorCode() {
        return code;
    }

    public int errorPosition() {
        return position;
    }

    private void need(boolean isIndex) {
        if (!isIndex) {
            throw new IndexOutOfBoundsException();
        }
    }

    private void needNode(int i) {
        need(i >= 0 && i < now.beings.size());
    }

    private void argue(boolean isFine) {
        if (!isFine) {
            throw new IllegalArgumentException();
        }
    }

    public int setting(int what) {
        argue(what >= 0 && what <= 10);
        Map<Integer, Integer> states = new HashMap<>();
        int inTime = 0;
        for (Letter m : now.letters) {
            states.merge(m.state, 1, Integer::sum);
            inTime += m.state == 1 && m.there <= m.due ? 1 : 0;
        }
        int up = 0;
        for (Being x : now.beings) {
            up += x.energy > 0 ? 1 : 0;
        }
        return new int[] {now.beings.size(), now.ties.size(), now.year, now.time, now.letters.size(),
            states.getOrDefault(1, 0), inTime, states.getOrDefault(2, 0), up, now.taken, undone.size()}[what];
    }

    public int node(int node, int what) {
        needNode(node);
        argue(what >= 0 && what <= 10);
        Being x = now.beings.get(node);
        int ties = 0;
        for (int k = 0; k < now.beings.size(); k++) {
            ties += now.tied(node, k) ? 1 << k : 0;
        }
        int here = 0;
        for (Letter m : now.letters) {
            here += m.state == 0 && m.at == node ? 1 : 0;
        }
        return new int[] {x.born, x.shift, x.energy, now.day(node, 0), now.wakes(node, 0) ? 1 : 0, ties, x.woke,
            x.gave, x.took, now.table(node).size(), here}[what];
    }

    public int link(int link, int what) {
        need(link >= 0 && link < now.ties.size());
        argue(what >= 0 && what <= 4);
        Tie t = now.ties.get(link);
        return new int[] {t.a, t.b, t.misses, t.met, t.missed}[what];
    }

    public int message(int message, int what) {
        need(message >= 0 && message < now.letters.size());
        argue(what >= 0 && what <= 7);
        Letter m = now.letters.get(message);
        return new int[] {m.from, m.to, m.at, m.state, m.due, m.urgent ? 1 : 0, m.there, m.passes}[what];
    }

    public int letter(int node, int i) {
        needNode(node);
        String name = now.beings.get(node).name;
        return i >= 0 && i < name.length() ? name.charAt(i) : 0;
    }

    public boolean inTable(int node, int day) {
        needNode(node);
        argue(day >= 0 && day < now.year);
        return now.table(node).contains(day);
    }

    public float duty(int node) {
        needNode(node);
        return (float) now.table(node).size() / (float) now.year;
    }

    public double meanEnergy() {
        int sum = 0;
        for (Being x : now.beings) {
            sum += x.energy;
        }
        return now.beings.isEmpty() ? 0.0 : (double) sum / (double) now.beings.size();
    }

    public int awakeIn(int ticks) {
        argue(ticks >= 0 && ticks <= 99);
        return set(ticks);
    }

    private int set(int ticks) {
        int set = 0;
        for (int i = 0; i < now.beings.size(); i++) {
            set += now.wakes(i, ticks) ? 1 << i : 0;
        }
        return set;
    }

    private static int orNone(int value) {
        return value == NEVER ? -1 : value;
    }

    public int meetsIn(int node, int other) {
        needNode(node);
        needNode(other);
        return orNone(now.meets(node, other));
    }

    public int worstLink() {
        int worst = -1;
        int late = -1;
        for (int i = 0; i < now.ties.size(); i++) {
            int t = now.meets(now.ties.get(i).a, now.ties.get(i).b);
            if (t > late) {
                late = t;
                worst = i;
            }
        }
        return worst;
    }

    public int busiest() {
        int best = 1;
        for (int t = 2; t <= now.year; t++) {
            if (Integer.bitCount(set(t)) > Integer.bitCount(set(best))) {
                best = t;
            }
        }
        return best;
    }

    public int hops(int node, int other) {
        needNode(node);
        needNode(other);
        return orNone(now.ways()[node][other]);
    }

    public int nextNode(int node, int other) {
        needNode(node);
        needNode(other);
        return node == other || now.out(node) ? -1 : now.next(node, other);
    }

    public int widest() {
        int most = 0;
        for (int[] row : now.ways()) {
            for (int hops : row) {
                most = hops == NEVER ? most : Math.max(most, hops);
            }
        }
        return most;
    }

    public int arrives(int message) {
        need(message >= 0 && message < now.letters.size());
        return orNone(arrival(now.copy(), message));
    }

    private static int arrival(World w, int message) {
        for (int t = 0; t <= 200; t++) {
            if (w.letters.get(message).state == 1) {
                return t;
            }
            w.tickOnce();
        }
        return NEVER;
    }

    private static Letter letterFrom(World w, int node, int other, int within, boolean urgent) {
        Letter m = new Letter();
        m.from = node;
        m.at = node;
        m.to = other;
        m.due = w.time + within;
        m.urgent = urgent;
        return m;
    }

    private static int sent(World w, int node, int other, boolean urgent) {
        if (w.out(node) || w.out(other)) {
            return NEVER;
        }
        w.letters.add(letterFrom(w, node, other, 1, urgent));
        return arrival(w, w.letters.size() - 1);
    }

    public int wouldArrive(int node, int other, boolean isUrgent) {
        needNode(node);
        needNode(other);
        argue(node != other);
        return orNone(sent(now.copy(), node, other, isUrgent));
    }

    public int outIn(int node) {
        needNode(node);
        World w = now.copy();
        for (int t = 0; t <= 200; t++) {
            if (w.out(node)) {
                return t;
            }
            w.tickOnce();
        }
        return -1;
    }

    public int energyIn(int node, int ticks) {
        needNode(node);
        argue(ticks >= 0 && ticks <= 200);
        World w = now.copy();
        for (int t = 0; t < ticks; t++) {
            w.tickOnce();
        }
        return w.beings.get(node).energy;
    }

    public int takesIn() {
        World w = now.copy();
        for (int t = 1; t <= 200; t++) {
            w.tickOnce();
            if (w.taken > now.taken) {
                return t;
            }
        }
        return -1;
    }

    public int bestShift(int node) {
        needNode(node);
        int best = -1;
        int least = 0;
        for (int shift = 0; shift < now.year; shift++) {
            World w = now.copy();
            w.beings.get(node).shift = shift;
            int greatest = -1;
            for (int k = 0; k < w.beings.size(); k++) {
                if (w.tied(node, k)) {
                    greatest = Math.max(greatest, w.meets(node, k));
                }
            }
            if (greatest >= 0 && (best < 0 || greatest < least)) {
                best = shift;
                least = greatest;
            }
        }
        return best;
    }

    public int bestWatch(int node, int other) {
        needNode(node);
        needNode(other);
        argue(node != other);
        int soonest = sent(now.copy(), node, other, false);
        int best = -1;
        for (int day = 0; day < now.year; day++) {
            World w = now.copy();
            w.beings.get(node).watched.add(day);
            int t = sent(w, node, other, false);
            if (t < soonest) {
                soonest = t;
                best = day;
            }
        }
        return best;
    }

    private void keep(World before) {
        undone.push(before);
        if (undone.size() > 6) {
            undone.removeLast();
        }
    }

    public int tick(int ticks) {
        argue(ticks >= 1 && ticks <= 99);
        if (now.time + ticks > 9999) {
            throw new IllegalStateException();
        }
        keep(now.copy());
        int there = 0;
        for (int i = 0; i < ticks; i++) {
            there += now.tickOnce();
        }
        return there;
    }

    public int send(int node, int other, int within, boolean isUrgent) {
        needNode(node);
        needNode(other);
        argue(node != other && within >= 1 && within <= 999);
        if (now.out(node) || now.out(other) || now.letters.size() == 60) {
            throw new IllegalStateException();
        }
        keep(now.copy());
        now.letters.add(letterFrom(now, node, other, within, isUrgent));
        return now.letters.size() - 1;
    }

    public int setShift(int node, int shift) {
        needNode(node);
        argue(shift >= 0 && shift < now.year);
        keep(now.copy());
        int before = now.beings.get(node).shift;
        now.beings.get(node).shift = shift;
        return before;
    }

    public boolean watch(int node, int day, boolean isOn) {
        needNode(node);
        argue(day >= 0 && day < now.year);
        World before = now.copy();
        TreeSet<Integer> watched = now.beings.get(node).watched;
        if (!(isOn ? watched.add(day) : watched.remove(day))) {
            return false;
        }
        keep(before);
        return true;
    }

    public int setBorn(int node, int day) {
        needNode(node);
        argue(day >= 0 && day < now.year);
        keep(now.copy());
        int before = now.beings.get(node).born;
        now.beings.get(node).born = day;
        return before;
    }

    public int charge(int node, int by) {
        needNode(node);
        argue(by >= 1 && by <= 999);
        keep(now.copy());
        Being x = now.beings.get(node);
        x.energy = Math.min(9999, x.energy + by);
        return x.energy;
    }

    public int setMiss(int many) {
        argue(many >= 1 && many <= 9);
        keep(now.copy());
        int before = now.miss;
        now.miss = many;
        return before;
    }

    public int report() {
        latest = new StringBuilder();
        for (int i = 0; i < now.beings.size(); i++) {
            Being x = now.beings.get(i);
            latest.append(x.name).append(' ').append(now.day(i, 0)).append('/').append(x.energy);
            latest.append(now.wakes(i, 0) ? "*" : "");
            for (int k = 0; k < now.letters.size(); k++) {
                Letter m = now.letters.get(k);
                if (m.state == 0 && m.at == i) {
                    latest.append(' ').append(k).append(m.urgent ? "!" : "");
                }
            }
            latest.append('\n');
        }
        return latest.length();
    }

    public int reportByte(int i) {
        need(i >= 0 && i < latest.length());
        return latest.charAt(i);
    }

    public int undo() {
        if (undone.isEmpty()) {
            return -1;
        }
        now = undone.pop();
        return undone.size();
    }

    public int save() {
        saved = now.copy();
        return now.time;
    }

    public int restore() {
        if (saved == null) {
            throw new IllegalStateException();
        }
        now = saved.copy();
        undone.clear();
        return now.time;
    }
}
