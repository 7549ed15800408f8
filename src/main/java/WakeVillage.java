/** A village of nodes that wake for one another by birthdays; shared/DOC.md promises what it does. */
public final class WakeVillage {
    public static final int NONE = -1;

    private static final int SETTINGS = 11;
    private static final int NODE_FIGURES = 11;
    private static final int LINK_FIGURES = 5;
    private static final int MESSAGE_FIGURES = 8;
    private static final int FARTHEST_LOOK = 99;

    private final Source source = new Source();
    private final TextReader reader = new TextReader();
    private final Script script = new Script();
    private final Forecast forecast = new Forecast();
    private final History history = new History();
    private final Report latest = new Report();
    private final Village now = new Village();
    private final Village draft = new Village();
    private final Village saved = new Village();
    private boolean isSaved;

    public WakeVillage() {
    }

    // ---- texts

    public int feed(int a, int b, int c, int d, int e) throws IllegalStateException {
        if (!source.hasRoomForFeed()) {
            throw new IllegalStateException("the buffer is full");
        }
        source.append(a);
        source.append(b);
        source.append(c);
        source.append(d);
        source.append(e);
        return source.length;
    }

    public int truncate(int n) throws IllegalArgumentException {
        if (n < 0 || n > source.length) {
            throw new IllegalArgumentException("no such length");
        }
        source.length = n;
        return n;
    }

    public int readText() throws IllegalArgumentException {
        boolean isRead = reader.readAll(source, draft);
        source.length = 0;
        if (!isRead) {
            throw new IllegalArgumentException("the text has an error");
        }
        now.copyFrom(draft);
        history.forget();
        return now.nodeCount;
    }

    public int runScript() throws IllegalArgumentException {
        boolean isRead = script.readAll(source, now);
        source.length = 0;
        if (!isRead) {
            throw new IllegalArgumentException("the script has an error");
        }
        history.keep(now);
        return script.runOn(now);
    }

    public int errorCode() {
        return source.failure;
    }

    public int errorPosition() {
        return source.failedAt;
    }

    // ---- what is there

    public int setting(int what) throws IllegalArgumentException {
        if (what < 0 || what >= SETTINGS) {
            throw new IllegalArgumentException("no such setting");
        }
        return what == 10 ? history.many : now.figure(what);
    }

    public int node(int node, int what) throws IndexOutOfBoundsException, IllegalArgumentException {
        requireNode(node);
        if (what < 0 || what >= NODE_FIGURES) {
            throw new IllegalArgumentException("no such number of a node");
        }
        return now.nodeFigure(node, what);
    }

    public int link(int link, int what) throws IndexOutOfBoundsException, IllegalArgumentException {
        if (link < 0 || link >= now.linkCount) {
            throw new IndexOutOfBoundsException("no such link");
        }
        if (what < 0 || what >= LINK_FIGURES) {
            throw new IllegalArgumentException("no such number of a link");
        }
        return now.linkAt(link).figure(what);
    }

    public int message(int message, int what) throws IndexOutOfBoundsException, IllegalArgumentException {
        requireMessage(message);
        if (what < 0 || what >= MESSAGE_FIGURES) {
            throw new IllegalArgumentException("no such number of a message");
        }
        return now.messageAt(message).figure(what);
    }

    public int letter(int node, int i) throws IndexOutOfBoundsException {
        requireNode(node);
        return Source.letterOf(now.nodeAt(node).name, i);
    }

    public boolean inTable(int node, int day) throws IndexOutOfBoundsException, IllegalArgumentException {
        requireNode(node);
        requireDay(day);
        return Village.hasDay(now.tableOf(node), day);
    }

    public float duty(int node) throws IndexOutOfBoundsException {
        requireNode(node);
        return now.year > 0 ? (float) Long.bitCount(now.tableOf(node)) / (float) now.year : 0.0f;
    }

    public double meanEnergy() {
        return now.nodeCount > 0 ? (double) now.energySum() / (double) now.nodeCount : 0.0;
    }

    // ---- wakes and ways, by what is there now; nothing changes by asking

    public int awakeIn(int ticks) throws IllegalArgumentException {
        if (ticks < 0 || ticks > FARTHEST_LOOK) {
            throw new IllegalArgumentException("ticks are out of range");
        }
        return now.awakeAfter(ticks);
    }

    public int meetsIn(int node, int other) throws IndexOutOfBoundsException {
        requireNode(node);
        requireNode(other);
        return node == other ? NONE : now.meetingIn(node, now.nodeAt(node).shift, other);
    }

    public int worstLink() {
        return now.latestMeetingLink();
    }

    public int busiest() {
        return now.ticksToMostAwake();
    }

    public int hops(int node, int other) throws IndexOutOfBoundsException {
        requireNode(node);
        requireNode(other);
        return now.hopsBetween(node, other);
    }

    public int nextNode(int node, int other) throws IndexOutOfBoundsException {
        requireNode(node);
        requireNode(other);
        return node == other || now.isOut(node) ? NONE : now.nextTowards(node, other, now.notOut());
    }

    public int widest() {
        return now.greatestHops();
    }

    // ---- what comes, if only ticks go by; nothing changes by asking

    public int arrives(int message) throws IndexOutOfBoundsException {
        requireMessage(message);
        return forecast.ticksToArrival(now, message);
    }

    public int wouldArrive(int node, int other, boolean isUrgent)
            throws IndexOutOfBoundsException, IllegalArgumentException {
        requireNode(node);
        requireNode(other);
        requireDifferent(node, other);
        return forecast.ticksIfSent(now, node, other, isUrgent);
    }

    public int outIn(int node) throws IndexOutOfBoundsException {
        requireNode(node);
        return forecast.ticksToOut(now, node);
    }

    public int energyIn(int node, int ticks) throws IndexOutOfBoundsException, IllegalArgumentException {
        requireNode(node);
        if (ticks < 0 || ticks > Forecast.HORIZON) {
            throw new IllegalArgumentException("ticks are out of range");
        }
        return forecast.energyAfter(now, node, ticks);
    }

    public int takesIn() {
        return forecast.ticksToShiftTaken(now);
    }

    public int bestShift(int node) throws IndexOutOfBoundsException {
        requireNode(node);
        return now.shiftToMeetSoonest(node);
    }

    public int bestWatch(int node, int other) throws IndexOutOfBoundsException, IllegalArgumentException {
        requireNode(node);
        requireNode(other);
        requireDifferent(node, other);
        return forecast.dayToWatch(now, node, other);
    }

    // ---- changes

    public int tick(int ticks) throws IllegalArgumentException, IllegalStateException {
        if (!Village.isTickCount(ticks)) {
            throw new IllegalArgumentException("ticks are out of range");
        }
        if (!now.hasTimeFor(ticks)) {
            throw new IllegalStateException("the time would be too late");
        }
        history.keep(now);
        return now.passTicks(ticks);
    }

    public int send(int node, int other, int within, boolean isUrgent)
            throws IndexOutOfBoundsException, IllegalArgumentException, IllegalStateException {
        requireNode(node);
        requireNode(other);
        if (!Village.isSending(node, other, within)) {
            throw new IllegalArgumentException("the same node, or within is out of range");
        }
        if (!now.canSend(node, other)) {
            throw new IllegalStateException("a node is out, or too many messages");
        }
        history.keep(now);
        return now.addMessage(node, other, within, isUrgent);
    }

    public int setShift(int node, int shift) throws IndexOutOfBoundsException, IllegalArgumentException {
        requireNode(node);
        requireDay(shift);
        history.keep(now);
        int before = now.nodeAt(node).shift;
        now.nodeAt(node).shift = shift;
        return before;
    }

    public boolean watch(int node, int day, boolean isOn)
            throws IndexOutOfBoundsException, IllegalArgumentException {
        requireNode(node);
        requireDay(day);
        if (now.isWatched(node, day) == isOn) {
            return false;
        }
        history.keep(now);
        now.turnWatch(node, day);
        return true;
    }

    public int setBorn(int node, int day) throws IndexOutOfBoundsException, IllegalArgumentException {
        requireNode(node);
        requireDay(day);
        history.keep(now);
        int before = now.nodeAt(node).born;
        now.nodeAt(node).born = day;
        return before;
    }

    public int charge(int node, int by) throws IndexOutOfBoundsException, IllegalArgumentException {
        requireNode(node);
        if (!Village.isCharge(by)) {
            throw new IllegalArgumentException("the charge is out of range");
        }
        history.keep(now);
        return now.addEnergy(node, by);
    }

    public int setMiss(int many) throws IllegalArgumentException {
        if (many < 1 || many > Village.MOST_MISSES) {
            throw new IllegalArgumentException("the misses are out of range");
        }
        history.keep(now);
        int before = now.mayMiss;
        now.mayMiss = many;
        return before;
    }

    // ---- reports, undo, a saved state

    public int report() {
        return latest.writeOf(now);
    }

    public int reportByte(int i) throws IndexOutOfBoundsException {
        if (i < 0 || i >= latest.length) {
            throw new IndexOutOfBoundsException("no such byte");
        }
        return latest.byteAt(i);
    }

    public int undo() {
        return history.takeBack(now) ? history.many : NONE;
    }

    public int save() {
        saved.copyFrom(now);
        isSaved = true;
        return now.time;
    }

    public int restore() throws IllegalStateException {
        if (!isSaved) {
            throw new IllegalStateException("nothing was saved");
        }
        now.copyFrom(saved);
        history.forget();
        return now.time;
    }

    private void requireNode(int number) {
        if (number < 0 || number >= now.nodeCount) {
            throw new IndexOutOfBoundsException("no such node");
        }
    }

    private void requireMessage(int number) {
        if (number < 0 || number >= now.messageCount) {
            throw new IndexOutOfBoundsException("no such message");
        }
    }

    private void requireDay(int day) {
        if (!now.isDay(day)) {
            throw new IllegalArgumentException("the year has no such day");
        }
    }

    private void requireDifferent(int node, int other) {
        if (node == other) {
            throw new IllegalArgumentException("both nodes are the same");
        }
    }

    private static final class Node {
        long name;
        long watched;
        int born;
        int shift;
        int energy;
        int linked;
        int awakeTicks;
        int passed;
        int got;
        /** Kept from waking to meeting: a shift that is taken in between must not move this day. */
        int dayAtWaking;

        void copyFrom(Node other) {
            name = other.name;
            watched = other.watched;
            born = other.born;
            shift = other.shift;
            energy = other.energy;
            linked = other.linked;
            awakeTicks = other.awakeTicks;
            passed = other.passed;
            got = other.got;
        }
    }

    private static final class Link {
        int first;
        int second;
        int misses;
        int met;
        int missed;

        void copyFrom(Link other) {
            first = other.first;
            second = other.second;
            misses = other.misses;
            met = other.met;
            missed = other.missed;
        }

        int figure(int what) {
            switch (what) {
                case 0: return first;
                case 1: return second;
                case 2: return misses;
                case 3: return met;
                default: return missed;
            }
        }
    }

    private static final class Message {
        static final int UNDER_WAY = 0;
        static final int THERE = 1;
        static final int LOST = 2;

        int from;
        int goal;
        int at;
        int state;
        int due;
        int thereAt;
        int passes;
        boolean isUrgent;

        void copyFrom(Message other) {
            from = other.from;
            goal = other.goal;
            at = other.at;
            state = other.state;
            due = other.due;
            thereAt = other.thereAt;
            passes = other.passes;
            isUrgent = other.isUrgent;
        }

        int figure(int what) {
            switch (what) {
                case 0: return from;
                case 1: return goal;
                case 2: return at;
                case 3: return state;
                case 4: return due;
                case 5: return isUrgent ? 1 : 0;
                case 6: return thereAt;
                default: return passes;
            }
        }
    }

    /** All that is saved, undone and tried in thought; the rules of a tick. */
    private static final class Village {
        static final int MOST_NODES = 10;
        static final int MOST_LINKS = 16;
        static final int MOST_MESSAGES = 60;
        static final int MOST_MISSES = 9;
        static final int MOST_ENERGY = 9999;
        static final int LATEST_TIME = 9999;

        final Node[] nodes = new Node[MOST_NODES];
        final Link[] links = new Link[MOST_LINKS];
        /** One more than can be sent, as a message may be tried in thought when all are sent. */
        final Message[] messages = new Message[MOST_MESSAGES + 1];
        int nodeCount;
        int linkCount;
        int messageCount;
        int year;
        int costToWake;
        int costToPass;
        int costToCall;
        int mayMiss;
        int time;
        int shiftsTaken;
        /** Sets of nodes, of the tick that goes by. */
        private int awake;
        private int passedOne;
        private int gotOne;

        Village() {
            for (int i = 0; i < nodes.length; i++) {
                nodes[i] = new Node();
            }
            for (int i = 0; i < links.length; i++) {
                links[i] = new Link();
            }
            for (int i = 0; i < messages.length; i++) {
                messages[i] = new Message();
            }
            makeEmpty();
        }

        void makeEmpty() {
            nodeCount = 0;
            linkCount = 0;
            messageCount = 0;
            year = 12;
            costToWake = 1;
            costToPass = 2;
            costToCall = 5;
            mayMiss = 3;
            time = 0;
            shiftsTaken = 0;
        }

        void copyFrom(Village other) {
            nodeCount = other.nodeCount;
            linkCount = other.linkCount;
            messageCount = other.messageCount;
            year = other.year;
            costToWake = other.costToWake;
            costToPass = other.costToPass;
            costToCall = other.costToCall;
            mayMiss = other.mayMiss;
            time = other.time;
            shiftsTaken = other.shiftsTaken;
            for (int i = 0; i < nodeCount; i++) {
                nodeAt(i).copyFrom(other.nodeAt(i));
            }
            for (int i = 0; i < linkCount; i++) {
                linkAt(i).copyFrom(other.linkAt(i));
            }
            for (int i = 0; i < messageCount; i++) {
                messageAt(i).copyFrom(other.messageAt(i));
            }
        }

        // The three below answer number 0 for a number that none has, so that no index can fail.

        Node nodeAt(int number) {
            return nodes[number >= 0 && number < nodes.length ? number : 0];
        }

        Link linkAt(int number) {
            return links[number >= 0 && number < links.length ? number : 0];
        }

        Message messageAt(int number) {
            return messages[number >= 0 && number < messages.length ? number : 0];
        }

        // ---- building

        void addNode(long name, int born, int shift, int energy) {
            if (nodeCount >= nodes.length) {
                return;
            }
            Node node = nodeAt(nodeCount);
            node.name = name;
            node.watched = 0L;
            node.born = born;
            node.shift = shift;
            node.energy = energy;
            node.linked = 0;
            node.awakeTicks = 0;
            node.passed = 0;
            node.got = 0;
            nodeCount++;
        }

        void addLink(int first, int second) {
            if (linkCount >= links.length) {
                return;
            }
            Link link = linkAt(linkCount);
            link.first = first;
            link.second = second;
            link.misses = 0;
            link.met = 0;
            link.missed = 0;
            nodeAt(first).linked |= 1 << second;
            nodeAt(second).linked |= 1 << first;
            linkCount++;
        }

        int addMessage(int from, int goal, int within, boolean isUrgent) {
            if (messageCount >= messages.length) {
                return NONE;
            }
            Message message = messageAt(messageCount);
            message.from = from;
            message.goal = goal;
            message.at = from;
            message.state = Message.UNDER_WAY;
            message.due = time + within;
            message.thereAt = NONE;
            message.passes = 0;
            message.isUrgent = isUrgent;
            messageCount++;
            return messageCount - 1;
        }

        /** Done when a text ends, as the year may be told behind the nodes. */
        void foldDays() {
            for (int i = 0; i < nodeCount; i++) {
                nodeAt(i).born = dayOfYear(nodeAt(i).born);
                nodeAt(i).shift = dayOfYear(nodeAt(i).shift);
            }
        }

        // ---- what may be done

        static boolean isTickCount(int ticks) {
            return ticks >= 1 && ticks <= 99;
        }

        static boolean isSending(int from, int goal, int within) {
            return from != goal && within >= 1 && within <= 999;
        }

        static boolean isCharge(int by) {
            return by >= 1 && by <= 999;
        }

        boolean hasTimeFor(int ticks) {
            return time + ticks <= LATEST_TIME;
        }

        boolean canSend(int from, int goal) {
            return !isOut(from) && !isOut(goal) && messageCount < MOST_MESSAGES;
        }

        boolean isDay(int day) {
            return day >= 0 && day < year;
        }

        // ---- changes but ticks

        void turnWatch(int number, int day) {
            nodeAt(number).watched ^= 1L << day;
        }

        int addEnergy(int number, int by) {
            Node node = nodeAt(number);
            node.energy = Math.min(MOST_ENERGY, node.energy + by);
            return node.energy;
        }

        // ---- what is there

        int numberOf(long name) {
            for (int i = 0; i < nodeCount; i++) {
                if (nodeAt(i).name == name) {
                    return i;
                }
            }
            return NONE;
        }

        static boolean has(int set, int number) {
            return (set >> number & 1) != 0;
        }

        static boolean hasDay(long days, int day) {
            return (days >> day & 1L) != 0L;
        }

        boolean isOut(int number) {
            return nodeAt(number).energy == 0;
        }

        boolean isWatched(int number, int day) {
            return hasDay(nodeAt(number).watched, day);
        }

        int dayOfYear(int days) {
            return year > 0 ? days % year : 0;
        }

        int dayOf(int number) {
            return dayOfYear(time + nodeAt(number).shift);
        }

        boolean isAwake(int number) {
            return !isOut(number) && hasDay(tableOf(number), dayOf(number));
        }

        long tableOf(int number) {
            Node node = nodeAt(number);
            long days = node.watched | 1L << node.born;
            for (int i = 0; i < nodeCount; i++) {
                if (has(node.linked, i)) {
                    days |= 1L << nodeAt(i).born;
                }
            }
            return days;
        }

        int energySum() {
            int sum = 0;
            for (int i = 0; i < nodeCount; i++) {
                sum += nodeAt(i).energy;
            }
            return sum;
        }

        int notOut() {
            int set = 0;
            for (int i = 0; i < nodeCount; i++) {
                if (nodeAt(i).energy > 0) {
                    set |= 1 << i;
                }
            }
            return set;
        }

        private int messagesInState(int state) {
            int many = 0;
            for (int i = 0; i < messageCount; i++) {
                if (messageAt(i).state == state) {
                    many++;
                }
            }
            return many;
        }

        private int messagesInTime() {
            int many = 0;
            for (int i = 0; i < messageCount; i++) {
                Message message = messageAt(i);
                if (message.state == Message.THERE && message.thereAt <= message.due) {
                    many++;
                }
            }
            return many;
        }

        boolean isWaitingAt(int message, int number) {
            return messageAt(message).state == Message.UNDER_WAY && messageAt(message).at == number;
        }

        private int messagesWaitingAt(int number) {
            int many = 0;
            for (int i = 0; i < messageCount; i++) {
                if (isWaitingAt(i, number)) {
                    many++;
                }
            }
            return many;
        }

        int figure(int what) {
            switch (what) {
                case 0: return nodeCount;
                case 1: return linkCount;
                case 2: return year;
                case 3: return time;
                case 4: return messageCount;
                case 5: return messagesInState(Message.THERE);
                case 6: return messagesInTime();
                case 7: return messagesInState(Message.LOST);
                case 8: return Integer.bitCount(notOut());
                default: return shiftsTaken;
            }
        }

        int nodeFigure(int number, int what) {
            Node node = nodeAt(number);
            switch (what) {
                case 0: return node.born;
                case 1: return node.shift;
                case 2: return node.energy;
                case 3: return dayOf(number);
                case 4: return isAwake(number) ? 1 : 0;
                case 5: return node.linked;
                case 6: return node.awakeTicks;
                case 7: return node.passed;
                case 8: return node.got;
                case 9: return Long.bitCount(tableOf(number));
                default: return messagesWaitingAt(number);
            }
        }

        // ---- wakes, if all else stays as it is

        private boolean wakesAfter(int number, int shift, int ticks) {
            return !isOut(number) && hasDay(tableOf(number), dayOfYear(time + ticks + shift));
        }

        int awakeAfter(int ticks) {
            int set = 0;
            for (int i = 0; i < nodeCount; i++) {
                if (wakesAfter(i, nodeAt(i).shift, ticks)) {
                    set |= 1 << i;
                }
            }
            return set;
        }

        int meetingIn(int number, int shift, int other) {
            for (int ticks = 1; ticks <= year; ticks++) {
                if (wakesAfter(number, shift, ticks) && wakesAfter(other, nodeAt(other).shift, ticks)) {
                    return ticks;
                }
            }
            return NONE;
        }

        /** Never counts as later than any meeting. */
        private int lateness(int number, int shift, int other) {
            int ticks = meetingIn(number, shift, other);
            return ticks == NONE ? year + 1 : ticks;
        }

        int latestMeetingLink() {
            int worst = NONE;
            int latest = 0;
            for (int i = 0; i < linkCount; i++) {
                int first = linkAt(i).first;
                int late = lateness(first, nodeAt(first).shift, linkAt(i).second);
                if (late > latest) {
                    worst = i;
                    latest = late;
                }
            }
            return worst;
        }

        int ticksToMostAwake() {
            int best = 1;
            int most = 0;
            for (int ticks = 1; ticks <= year; ticks++) {
                int many = Integer.bitCount(awakeAfter(ticks));
                if (many > most) {
                    best = ticks;
                    most = many;
                }
            }
            return best;
        }

        private int greatestLateness(int number, int shift) {
            int greatest = 0;
            for (int i = 0; i < nodeCount; i++) {
                if (has(nodeAt(number).linked, i)) {
                    greatest = Math.max(greatest, lateness(number, shift, i));
                }
            }
            return greatest;
        }

        int shiftToMeetSoonest(int number) {
            if (nodeAt(number).linked == 0) {
                return NONE;
            }
            int best = 0;
            int least = greatestLateness(number, 0);
            for (int shift = 1; shift < year; shift++) {
                int late = greatestLateness(number, shift);
                if (late < least) {
                    best = shift;
                    least = late;
                }
            }
            return best;
        }

        // ---- ways

        /** Those of a set, and the open ones next to them. */
        private int grown(int set, int open) {
            int larger = set;
            for (int i = 0; i < nodeCount; i++) {
                if (i < nodes.length && (set >> i & 1) != 0) {
                    larger |= nodes[i].linked & open;
                }
            }
            return larger;
        }

        private static int lowestOf(int set) {
            for (int i = 0; i < MOST_NODES; i++) {
                if ((set >> i & 1) != 0) {
                    return i;
                }
            }
            return NONE;
        }

        int hopsBetween(int from, int goal) {
            int open = notOut();
            int reached = 1 << from & open;
            for (int hops = 0; hops < MOST_NODES; hops++) {
                if (has(reached, goal)) {
                    return hops;
                }
                reached = grown(reached, open);
            }
            return NONE;
        }

        /**
         * Grows from the goal, over the open nodes, until it touches those next to a node. Whether
         * that node is open is not asked, as the document asks it of the next ones alone.
         */
        int nextTowards(int at, int goal, int open) {
            int near = nodeAt(at).linked & open;
            int reached = 1 << goal & open;
            for (int hops = 0; hops < MOST_NODES; hops++) {
                if ((near & reached) != 0) {
                    return lowestOf(near & reached);
                }
                reached = grown(reached, open);
            }
            return NONE;
        }

        int greatestHops() {
            int greatest = 0;
            for (int i = 0; i < nodeCount; i++) {
                for (int k = 0; k < i; k++) {
                    greatest = Math.max(greatest, hopsBetween(i, k));
                }
            }
            return greatest;
        }

        // ---- ticks

        int passTicks(int ticks) {
            int there = 0;
            for (int i = 0; i < ticks; i++) {
                time++;
                wakeNodes();
                for (int k = 0; k < linkCount; k++) {
                    meetOrMiss(linkAt(k));
                }
                passedOne = 0;
                gotOne = 0;
                there += passMessages(true) + passMessages(false);
                loseMessages();
            }
            return there;
        }

        private void wakeNodes() {
            awake = 0;
            for (int i = 0; i < nodeCount; i++) {
                Node node = nodeAt(i);
                node.dayAtWaking = dayOf(i);
                if (isAwake(i)) {
                    node.energy = Math.max(0, node.energy - costToWake);
                    if (node.energy > 0) {
                        awake |= 1 << i;
                        node.awakeTicks++;
                    }
                }
            }
        }

        private void meetOrMiss(Link link) {
            Node first = nodeAt(link.first);
            Node second = nodeAt(link.second);
            if (first.energy == 0 || second.energy == 0) {
                return;
            }
            boolean isFirstAwake = has(awake, link.first);
            boolean isSecondAwake = has(awake, link.second);
            if (isFirstAwake && isSecondAwake) {
                link.met++;
                link.misses = 0;
            } else if (isFirstAwake || isSecondAwake) {
                int day = isFirstAwake ? first.dayAtWaking : second.dayAtWaking;
                if (day == first.born || day == second.born) {
                    miss(link);
                }
            }
        }

        private void miss(Link link) {
            link.missed++;
            link.misses++;
            if (link.misses >= mayMiss) {
                int lower = Math.min(link.first, link.second);
                int greater = Math.max(link.first, link.second);
                nodeAt(greater).shift = nodeAt(lower).shift;
                link.misses = 0;
                shiftsTaken++;
            }
        }

        private int passMessages(boolean isUrgent) {
            int there = 0;
            for (int i = 0; i < messageCount; i++) {
                Message message = messageAt(i);
                if (message.state == Message.UNDER_WAY && message.isUrgent == isUrgent) {
                    tryToPass(message);
                    there += message.state == Message.THERE ? 1 : 0;
                }
            }
            return there;
        }

        private void tryToPass(Message message) {
            boolean isGiverAwake = has(awake, message.at);
            if (has(passedOne, message.at) || !isGiverAwake && !message.isUrgent) {
                return;
            }
            int next = nextTowards(message.at, message.goal, notOut());
            if (next == NONE || has(gotOne, next)) {
                return;
            }
            boolean areAwake = isGiverAwake && has(awake, next);
            int cost = areAwake ? costToPass : costToPass + costToCall;
            Node giver = nodeAt(message.at);
            Node taker = nodeAt(next);
            if (!areAwake && !message.isUrgent || giver.energy < cost || taker.energy < cost) {
                return;
            }
            giver.energy -= cost;
            giver.passed++;
            passedOne |= 1 << message.at;
            taker.energy -= cost;
            taker.got++;
            gotOne |= 1 << next;
            moveTo(message, next);
        }

        private void moveTo(Message message, int next) {
            message.at = next;
            message.passes++;
            if (next == message.goal) {
                message.state = Message.THERE;
                message.thereAt = time;
            }
        }

        private void loseMessages() {
            for (int i = 0; i < messageCount; i++) {
                Message message = messageAt(i);
                if (message.state == Message.UNDER_WAY && isOut(message.at)) {
                    message.state = Message.LOST;
                }
            }
        }
    }

    /** Tries ticks on a village of its own. */
    private static final class Forecast {
        static final int HORIZON = 200;

        private final Village trial = new Village();

        int ticksToArrival(Village now, int message) {
            trial.copyFrom(now);
            return trialArrival(message, HORIZON);
        }

        int ticksIfSent(Village now, int from, int goal, boolean isUrgent) {
            if (now.isOut(from) || now.isOut(goal)) {
                return NONE;
            }
            return trialArrival(sendInThought(now, from, goal, isUrgent), HORIZON);
        }

        private int sendInThought(Village now, int from, int goal, boolean isUrgent) {
            trial.copyFrom(now);
            return trial.addMessage(from, goal, 1, isUrgent);
        }

        private int trialArrival(int number, int horizon) {
            Message message = trial.messageAt(number);
            for (int ticks = 0; ticks <= horizon && message.state != Message.LOST; ticks++) {
                if (message.state == Message.THERE) {
                    return ticks;
                }
                trial.passTicks(1);
            }
            return NONE;
        }

        int ticksToOut(Village now, int number) {
            trial.copyFrom(now);
            for (int ticks = 0; ticks <= HORIZON; ticks++) {
                if (trial.isOut(number)) {
                    return ticks;
                }
                trial.passTicks(1);
            }
            return NONE;
        }

        int energyAfter(Village now, int number, int ticks) {
            trial.copyFrom(now);
            trial.passTicks(ticks);
            return trial.nodeAt(number).energy;
        }

        int ticksToShiftTaken(Village now) {
            trial.copyFrom(now);
            for (int ticks = 1; ticks <= HORIZON; ticks++) {
                trial.passTicks(1);
                if (trial.shiftsTaken != now.shiftsTaken) {
                    return ticks;
                }
            }
            return NONE;
        }

        int dayToWatch(Village now, int from, int goal) {
            if (now.isOut(from) || now.isOut(goal)) {
                return NONE;
            }
            int soonest = trialArrival(sendInThought(now, from, goal, false), HORIZON);
            int best = NONE;
            for (int day = 0; day < now.year; day++) {
                if (!Village.hasDay(now.tableOf(from), day)) {
                    int message = sendInThought(now, from, goal, false);
                    trial.turnWatch(from, day);
                    // Only a sooner day counts, so a later one need not be waited for.
                    int ticks = trialArrival(message, soonest == NONE ? HORIZON : soonest - 1);
                    if (ticks != NONE) {
                        soonest = ticks;
                        best = day;
                    }
                }
            }
            return best;
        }
    }

    /** The states before the latest changes. */
    private static final class History {
        private static final int MOST = 6;

        private final Village[] kept = new Village[MOST];
        private int slot;
        int many;

        History() {
            for (int i = 0; i < kept.length; i++) {
                kept[i] = new Village();
            }
        }

        void forget() {
            many = 0;
        }

        void keep(Village now) {
            if (slot < 0 || slot >= kept.length) {
                slot = 0;
            }
            kept[slot].copyFrom(now);
            slot++;
            many = Math.min(MOST, many + 1);
        }

        boolean takeBack(Village now) {
            if (many == 0) {
                return false;
            }
            slot = slot > 0 && slot <= kept.length ? slot - 1 : kept.length - 1;
            now.copyFrom(kept[slot]);
            many--;
            return true;
        }
    }

    private static final class Report {
        /** Above what ten lines and sixty messages can need. */
        private static final int MOST_BYTES = 600;

        private final byte[] bytes = new byte[MOST_BYTES];
        int length;

        int byteAt(int i) {
            return i >= 0 && i < bytes.length ? bytes[i] : 0;
        }

        int writeOf(Village now) {
            length = 0;
            for (int i = 0; i < now.nodeCount; i++) {
                writeNode(now, i);
            }
            return length;
        }

        private void writeNode(Village now, int number) {
            writeName(now.nodeAt(number).name);
            put(' ');
            putNumber(now.dayOf(number));
            put('/');
            putNumber(now.nodeAt(number).energy);
            if (now.isAwake(number)) {
                put('*');
            }
            for (int i = 0; i < now.messageCount; i++) {
                if (now.isWaitingAt(i, number)) {
                    put(' ');
                    putNumber(i);
                    if (now.messageAt(i).isUrgent) {
                        put('!');
                    }
                }
            }
            put('\n');
        }

        private void writeName(long name) {
            for (int i = 0; i < Source.MOST_LETTERS; i++) {
                if (Source.letterOf(name, i) != 0) {
                    put(Source.letterOf(name, i));
                }
            }
        }

        private void putNumber(int number) {
            boolean isBegun = false;
            for (int unit = 1000; unit >= 1; unit /= 10) {
                isBegun = isBegun || number >= unit || unit == 1;
                if (isBegun) {
                    put('0' + number / unit % 10);
                }
            }
        }

        private void put(int code) {
            if (length >= 0 && length < bytes.length) {
                bytes[length] = (byte) code;
                length++;
            }
        }
    }

    /** The buffer, the tokens in it, and the first error found in them. */
    private static final class Source {
        static final int MOST_BYTES = 600;
        static final int MOST_LETTERS = 8;
        static final int MOST_DIGITS = 3;

        static final int MISPLACED = 1;
        static final int OUT_OF_RANGE = 2;
        static final int TOLD_BEFORE = 3;
        static final int UNKNOWN = 4;
        static final int TOO_MANY = 5;

        /** Kinds of tokens; a single character is a kind by its own code. */
        private static final int END = 0;
        private static final int WORD = 1;
        private static final int NUMBER = 2;
        private static final int INVALID = 3;

        private final byte[] bytes = new byte[MOST_BYTES];
        int length;
        int failure;
        int failedAt = NONE;
        /** The letters of the present token, the first in the lowest byte, 0 behind the last. */
        long word;
        /** The number that takeNumber() took. */
        int taken;
        private int kind;
        private int number;
        private int start;
        private int next;

        boolean hasRoomForFeed() {
            return length + 20 <= MOST_BYTES;
        }

        void append(int four) {
            for (int shift = 24; shift >= 0; shift -= 8) {
                if (length >= 0 && length < bytes.length) {
                    bytes[length] = (byte) (four >> shift);
                    length++;
                }
            }
        }

        static int letterOf(long word, int i) {
            return i >= 0 && i < MOST_LETTERS ? (int) (word >> 8 * i & 255L) : 0;
        }

        void begin() {
            failure = 0;
            failedAt = NONE;
            next = 0;
            advance();
        }

        /** Answers false, so that a reader can leave with it. */
        boolean fail(int code) {
            failure = code;
            failedAt = start;
            return false;
        }

        void advance() {
            while (next < length && (byteAt(next) == ' ' || byteAt(next) == '\n')) {
                next++;
            }
            start = next;
            int code = byteAt(next);
            if (next >= length) {
                kind = END;
            } else if (isLetter(code)) {
                scanWord();
            } else if (isDigit(code)) {
                scanNumber();
            } else {
                kind = code == ';' || code == '(' || code == ')' ? code : INVALID;
                next++;
            }
        }

        private int byteAt(int i) {
            return i >= 0 && i < bytes.length ? bytes[i] : 0;
        }

        private static boolean isLetter(int code) {
            return code >= 'a' && code <= 'z';
        }

        private static boolean isDigit(int code) {
            return code >= '0' && code <= '9';
        }

        private void scanWord() {
            word = 0L;
            for (; next < length && isLetter(byteAt(next)); next++) {
                if (next - start < MOST_LETTERS) {
                    word |= (long) byteAt(next) << 8 * (next - start);
                }
            }
            kind = next - start <= MOST_LETTERS ? WORD : INVALID;
        }

        private void scanNumber() {
            number = 0;
            for (; next < length && isDigit(byteAt(next)); next++) {
                if (next - start < MOST_DIGITS) {
                    number = number * 10 + byteAt(next) - '0';
                }
            }
            kind = next - start <= MOST_DIGITS ? NUMBER : INVALID;
        }

        boolean isAtEnd() {
            return kind == END;
        }

        boolean isMark(int code) {
            return kind == code;
        }

        boolean isWord(String expected) {
            if (kind != WORD) {
                return false;
            }
            for (int i = 0; i < MOST_LETTERS; i++) {
                if (letterOf(word, i) != (i < expected.length() ? expected.charAt(i) : 0)) {
                    return false;
                }
            }
            return true;
        }

        boolean takeMark(int code) {
            if (!isMark(code)) {
                return fail(MISPLACED);
            }
            advance();
            return true;
        }

        boolean takeWord(String expected) {
            if (!isWord(expected)) {
                return fail(MISPLACED);
            }
            advance();
            return true;
        }

        boolean takeNumber(int least, int most) {
            if (kind != NUMBER) {
                return fail(MISPLACED);
            }
            if (number < least || number > most) {
                return fail(OUT_OF_RANGE);
            }
            taken = number;
            advance();
            return true;
        }

        /** Asks for a word without taking it, as its use may still be an error at this token. */
        boolean expectName() {
            return kind == WORD || fail(MISPLACED);
        }

        /** The node that the present token names, which is not taken; NONE and an error if none. */
        int expectNode(Village village) {
            if (!expectName()) {
                return NONE;
            }
            int found = village.numberOf(word);
            if (found == NONE) {
                fail(UNKNOWN);
            }
            return found;
        }
    }

    private static final class TextReader {
        private static final int LONGEST_YEAR = 60;

        private boolean isYearTold;
        private boolean areCostsTold;
        private boolean isMissTold;

        boolean readAll(Source source, Village draft) {
            isYearTold = false;
            areCostsTold = false;
            isMissTold = false;
            draft.makeEmpty();
            source.begin();
            for (int i = 0; i <= Source.MOST_BYTES && !source.isAtEnd(); i++) {
                if (!readStatement(source, draft) || !source.takeMark(';')) {
                    return false;
                }
            }
            draft.foldDays();
            return true;
        }

        private boolean readStatement(Source source, Village draft) {
            if (source.isWord("year")) {
                return readYear(source, draft);
            }
            if (source.isWord("costs")) {
                return readCosts(source, draft);
            }
            if (source.isWord("miss")) {
                return readMiss(source, draft);
            }
            if (source.isWord("node")) {
                return readNode(source, draft);
            }
            if (source.isWord("link")) {
                return readLink(source, draft);
            }
            return source.fail(Source.MISPLACED);
        }

        private boolean readYear(Source source, Village draft) {
            if (isYearTold) {
                return source.fail(Source.TOLD_BEFORE);
            }
            isYearTold = true;
            source.advance();
            if (!source.takeNumber(4, LONGEST_YEAR)) {
                return false;
            }
            draft.year = source.taken;
            return true;
        }

        private boolean readCosts(Source source, Village draft) {
            if (areCostsTold) {
                return source.fail(Source.TOLD_BEFORE);
            }
            areCostsTold = true;
            source.advance();
            if (!source.takeNumber(0, 99)) {
                return false;
            }
            draft.costToWake = source.taken;
            if (!source.takeNumber(0, 99)) {
                return false;
            }
            draft.costToPass = source.taken;
            if (!source.takeNumber(0, 99)) {
                return false;
            }
            draft.costToCall = source.taken;
            return true;
        }

        private boolean readMiss(Source source, Village draft) {
            if (isMissTold) {
                return source.fail(Source.TOLD_BEFORE);
            }
            isMissTold = true;
            source.advance();
            if (!source.takeNumber(1, Village.MOST_MISSES)) {
                return false;
            }
            draft.mayMiss = source.taken;
            return true;
        }

        private boolean readNode(Source source, Village draft) {
            if (draft.nodeCount >= Village.MOST_NODES) {
                return source.fail(Source.TOO_MANY);
            }
            source.advance();
            if (!source.expectName()) {
                return false;
            }
            long name = source.word;
            if (draft.numberOf(name) != NONE) {
                return source.fail(Source.TOLD_BEFORE);
            }
            source.advance();
            if (!source.takeWord("born") || !source.takeNumber(0, LONGEST_YEAR - 1)) {
                return false;
            }
            int born = source.taken;
            int shift = 0;
            if (source.isWord("shift")) {
                source.advance();
                if (!source.takeNumber(0, LONGEST_YEAR - 1)) {
                    return false;
                }
                shift = source.taken;
            }
            if (!source.takeWord("energy") || !source.takeNumber(1, 999)) {
                return false;
            }
            draft.addNode(name, born, shift, source.taken);
            return true;
        }

        private boolean readLink(Source source, Village draft) {
            if (draft.linkCount >= Village.MOST_LINKS) {
                return source.fail(Source.TOO_MANY);
            }
            source.advance();
            int first = source.expectNode(draft);
            if (first == NONE) {
                return false;
            }
            source.advance();
            int second = source.expectNode(draft);
            if (second == NONE) {
                return false;
            }
            if (second == first || Village.has(draft.nodeAt(first).linked, second)) {
                return source.fail(Source.TOLD_BEFORE);
            }
            source.advance();
            draft.addLink(first, second);
            return true;
        }
    }

    private static final class Command {
        int kind;
        int number;
        int node;
        int other;
        /** Of a repeat: the first command behind it, the repeat round it, the rounds still to do. */
        int behind;
        int outer;
        int left;
    }

    private static final class Script {
        private static final int TICK = 0;
        private static final int SEND = 1;
        private static final int CALL = 2;
        private static final int SHIFT = 3;
        private static final int WATCH = 4;
        private static final int CHARGE = 5;
        private static final int REPEAT = 6;

        private static final int MOST_COMMANDS = 30;
        private static final int MOST_DONE = 40;
        private static final int DEEPEST = 2;
        /** Far above the rounds of thirty repeats of twenty, two deep. */
        private static final int MOST_STEPS = 1000000;

        private final Command[] commands = new Command[MOST_COMMANDS];
        private int count;
        private int done;
        /** The repeat that is open while the script is read or run; how many are open. */
        private int inside;
        private int depth;

        Script() {
            for (int i = 0; i < commands.length; i++) {
                commands[i] = new Command();
            }
        }

        private Command commandAt(int i) {
            return commands[i >= 0 && i < commands.length ? i : 0];
        }

        // ---- reading

        boolean readAll(Source source, Village village) {
            count = 0;
            inside = NONE;
            depth = 0;
            source.begin();
            for (int i = 0; i <= Source.MOST_BYTES && !source.isAtEnd(); i++) {
                boolean isRead = inside != NONE && source.isMark(')')
                        ? closeRepeat(source) : readCommand(source, village);
                if (!isRead) {
                    return false;
                }
            }
            return inside == NONE || source.fail(Source.MISPLACED);
        }

        private static int kindOfWord(Source source) {
            if (source.isWord("tick")) {
                return TICK;
            }
            if (source.isWord("send")) {
                return SEND;
            }
            if (source.isWord("call")) {
                return CALL;
            }
            if (source.isWord("shift")) {
                return SHIFT;
            }
            if (source.isWord("watch")) {
                return WATCH;
            }
            if (source.isWord("charge")) {
                return CHARGE;
            }
            return source.isWord("repeat") ? REPEAT : NONE;
        }

        private boolean readCommand(Source source, Village village) {
            int kind = kindOfWord(source);
            if (kind == NONE) {
                return source.fail(Source.MISPLACED);
            }
            if (kind == REPEAT && depth >= DEEPEST) {
                return source.fail(Source.TOLD_BEFORE);
            }
            if (count >= commands.length) {
                return source.fail(Source.TOO_MANY);
            }
            Command command = commandAt(count);
            command.kind = kind;
            count++;
            source.advance();
            if (kind == REPEAT) {
                return openRepeat(source, command);
            }
            return readNames(source, village, command) && readNumber(source, command);
        }

        private boolean openRepeat(Source source, Command command) {
            if (!source.takeNumber(1, 20)) {
                return false;
            }
            command.number = source.taken;
            command.outer = inside;
            inside = count - 1;
            depth++;
            return source.takeMark('(');
        }

        private boolean closeRepeat(Source source) {
            Command command = commandAt(inside);
            command.behind = count;
            inside = command.outer;
            depth--;
            return source.takeMark(')') && source.takeMark(';');
        }

        private boolean readNames(Source source, Village village, Command command) {
            if (command.kind != TICK) {
                command.node = source.expectNode(village);
                if (command.node == NONE) {
                    return false;
                }
                source.advance();
            }
            if (command.kind == SEND || command.kind == CALL) {
                command.other = source.expectNode(village);
                if (command.other == NONE) {
                    return false;
                }
                source.advance();
            }
            return true;
        }

        private boolean readNumber(Source source, Command command) {
            if (!source.takeNumber(0, 999)) {
                return false;
            }
            command.number = source.taken;
            return source.takeMark(';');
        }

        // ---- running

        int runOn(Village village) {
            done = 0;
            inside = NONE;
            int at = 0;
            for (int step = 0; step < MOST_STEPS && done < MOST_DONE; step++) {
                Command command = commandAt(at);
                if (inside != NONE && at == commandAt(inside).behind) {
                    at = endRound(at);
                } else if (at >= count) {
                    return done;
                } else if (command.kind == REPEAT) {
                    command.left = command.number;
                    inside = at;
                    at++;
                } else {
                    if (!perform(command, village)) {
                        return done;
                    }
                    done++;
                    at++;
                }
            }
            return done;
        }

        /** Answers where the script goes on behind a round of the repeat that is open. */
        private int endRound(int at) {
            Command command = commandAt(inside);
            command.left--;
            if (command.left > 0) {
                return inside + 1;
            }
            inside = command.outer;
            return at;
        }

        private static boolean perform(Command command, Village village) {
            switch (command.kind) {
                case TICK:
                    if (!Village.isTickCount(command.number) || !village.hasTimeFor(command.number)) {
                        return false;
                    }
                    village.passTicks(command.number);
                    return true;
                case SEND: return performSend(command, village, false);
                case CALL: return performSend(command, village, true);
                case SHIFT: return performShift(command, village);
                case WATCH: return performWatch(command, village);
                default: return performCharge(command, village);
            }
        }

        private static boolean performSend(Command command, Village village, boolean isUrgent) {
            if (!Village.isSending(command.node, command.other, command.number)
                    || !village.canSend(command.node, command.other)) {
                return false;
            }
            village.addMessage(command.node, command.other, command.number, isUrgent);
            return true;
        }

        private static boolean performShift(Command command, Village village) {
            if (!village.isDay(command.number)) {
                return false;
            }
            village.nodeAt(command.node).shift = command.number;
            return true;
        }

        private static boolean performWatch(Command command, Village village) {
            if (!village.isDay(command.number) || village.isWatched(command.node, command.number)) {
                return false;
            }
            village.turnWatch(command.node, command.number);
            return true;
        }

        private static boolean performCharge(Command command, Village village) {
            if (!Village.isCharge(command.number)) {
                return false;
            }
            village.addEnergy(command.node, command.number);
            return true;
        }
    }
}
