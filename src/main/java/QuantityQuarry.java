import java.util.Arrays;
import java.util.NoSuchElementException;

/** A language of protocols with parties and of programs with cells that must be used up. */
public final class QuantityQuarry {
    private static final int NONE = -1;
    private static final int MOST_PARTIES = 4;
    private static final int MOST_NODES = 20;
    private static final int MOST_BRANCHES = 3;
    private static final int LABELS = 6;
    private static final int MOST_STATES = 40;
    private static final int MOST_INSTRUCTIONS = 20;
    private static final int NAMES = 4;
    private static final int NUMBERS = 2;
    private static final int HIGHEST_VALUE = 9;
    private static final int MOST_CAPACITY = 3;
    private static final int CELLS = 64;
    private static final int MOST_REACHED = 1000;

    private static final int MAKE = 'n';
    private static final int USE_UP = 'u';
    private static final int MOVE = 'm';
    private static final int JUMP = 'j';
    private static final int COUNT_DOWN = 'd';
    private static final int SEND = 's';
    private static final int RECEIVE = 'r';
    private static final int END = 'e';

    private static final int RUNS = 'r';
    private static final int ENDED = 'e';
    private static final int CANCELLED = 'c';
    private static final int FAILED = 'x';
    private static final int DONE = 'd';
    private static final int BLOCKED = 'b';
    private static final int BLAMED = 'v';

    private static final int RIGHT = '-';

    private final Protocol protocol = new Protocol();
    private final Party[] parties = new Party[MOST_PARTIES];
    private final Checker checker = new Checker();
    private final RunState live = new RunState();
    private final Explorer explorer = new Explorer();
    private final int[] stepsBeforeBlame = new int[MOST_PARTIES];
    private boolean isInRun;
    private boolean allWereAdmitted;
    private boolean anyCancelCall;
    private int stepsOfRun;
    private long stepsOfAllRuns;

    public QuantityQuarry() {
    }

    public int addParty() throws IllegalStateException {
        requireNoRun();
        for (int number = 0; number < parties.length; number++) {
            if (parties[number] == null) {
                parties[number] = new Party(number);
                return number;
            }
        }
        throw new IllegalStateException("there are 4 parties");
    }

    public int addMessage(int from, int to)
            throws IndexOutOfBoundsException, IllegalArgumentException, IllegalStateException {
        partyNumbered(from);
        partyNumbered(to);
        if (from == to) {
            throw new IllegalArgumentException("both parties are the same");
        }
        requireRoomForNode();
        return protocol.putNode(from, to);
    }

    public int addEnd() throws IllegalStateException {
        requireRoomForNode();
        return protocol.putNode(NONE, NONE);
    }

    public int addBranch(int node, int label, boolean hasCell, int next)
            throws IndexOutOfBoundsException, IllegalArgumentException, IllegalStateException {
        requireNode(node);
        requireNode(next);
        if (!protocol.isMessage(node) || !isWithin(label, 0, LABELS - 1)) {
            throw new IllegalArgumentException("no message, or no label from 0 to 5");
        }
        if (protocol.branchCount(node) >= MOST_BRANCHES || protocol.hasBranch(node, label)) {
            throw new IllegalStateException("the message has 3 branches, or one with the label");
        }
        requireNoRun();
        protocol.putBranch(node, label, hasCell, next);
        return protocol.branchCount(node);
    }

    public int setStart(int node) throws IndexOutOfBoundsException, IllegalStateException {
        requireNode(node);
        requireNoRun();
        return protocol.putStart(node);
    }

    public char refusal(int party) throws IndexOutOfBoundsException, IllegalStateException {
        Party found = partyNumbered(party);
        requireWhole();
        found.projection.refresh(protocol, found.number);
        return (char) found.projection.reason;
    }

    public int states(int party)
            throws IndexOutOfBoundsException, IllegalStateException, UnsupportedOperationException {
        return unrefused(party).projection.stateCount;
    }

    public char kindOf(int party, int state) throws IndexOutOfBoundsException, IllegalStateException,
            UnsupportedOperationException, NoSuchElementException {
        Projection projection = unrefused(party).projection;
        if (!projection.hasState(state)) {
            throw new NoSuchElementException("there is no such state");
        }
        return (char) projection.kindAt(state);
    }

    public int partnerOf(int party, int state) throws IndexOutOfBoundsException, IllegalStateException,
            UnsupportedOperationException, NoSuchElementException {
        Projection projection = unrefused(party).projection;
        if (!projection.hasState(state) || projection.kindAt(state) == END) {
            throw new NoSuchElementException("there is no such state, or it is an end");
        }
        return projection.partnerAt(state);
    }

    public int follower(int party, int state, int label) throws IndexOutOfBoundsException,
            IllegalStateException, UnsupportedOperationException, NoSuchElementException {
        Projection projection = unrefused(party).projection;
        if (!projection.hasState(state) || !projection.hasLabel(state, label)) {
            throw new NoSuchElementException("there is no such state, or it has not this label");
        }
        int next = projection.stateBehind(state, label);
        return projection.carriesCell(state, label) ? next + 100 : next;
    }

    public int add(int party, char kind, int a, int b, int c)
            throws IndexOutOfBoundsException, IllegalArgumentException, IllegalStateException {
        Party found = partyNumbered(party);
        if (!isInstruction(party, kind, a, b, c)) {
            throw new IllegalArgumentException("no such kind, or a number out of range");
        }
        if (found.program.instructionCount >= MOST_INSTRUCTIONS) {
            throw new IllegalStateException("there are 20 instructions");
        }
        requireNoRun();
        return found.program.putInstruction(kind, a, b, c);
    }

    public int addCase(int party, int instruction, int label, int name, int next)
            throws IndexOutOfBoundsException, IllegalArgumentException, IllegalStateException {
        Program program = partyNumbered(party).program;
        if (!program.hasInstruction(instruction)) {
            throw new IndexOutOfBoundsException("there is no such instruction");
        }
        if (program.kindAt(instruction) != RECEIVE || !isWithin(label, 0, LABELS - 1)
                || !isWithin(name, NONE, NAMES - 1) || !isWithin(next, 0, MOST_INSTRUCTIONS - 1)) {
            throw new IllegalArgumentException("it does not receive, or a number is out of range");
        }
        if (program.hasCase(instruction, label)) {
            throw new IllegalStateException("it has a case for the label");
        }
        requireNoRun();
        return program.putCase(instruction, label, name, next);
    }

    public int setNumber(int party, int number, int value)
            throws IndexOutOfBoundsException, IllegalArgumentException, IllegalStateException {
        Party found = partyNumbered(party);
        if (!isWithin(number, 0, NUMBERS - 1) || !isWithin(value, 0, HIGHEST_VALUE)) {
            throw new IllegalArgumentException("no such number, or its value is out of range");
        }
        requireNoRun();
        int before = get(found.numbers, number);
        put(found.numbers, number, value);
        return before;
    }

    public char fault(int party)
            throws IndexOutOfBoundsException, IllegalStateException, UnsupportedOperationException {
        return (char) checked(party).faultReason;
    }

    public int faultAt(int party) throws IndexOutOfBoundsException, IllegalStateException,
            UnsupportedOperationException, NoSuchElementException {
        Party found = checked(party);
        if (found.faultReason == RIGHT) {
            throw new NoSuchElementException("no place is wrong");
        }
        return found.faultInstruction;
    }

    public int places(int party)
            throws IndexOutOfBoundsException, IllegalStateException, UnsupportedOperationException {
        return checked(party).placeCount;
    }

    public int idleCases(int party)
            throws IndexOutOfBoundsException, IllegalStateException, UnsupportedOperationException {
        return checked(party).idleCaseCount;
    }

    public boolean isAdmitted(int party) throws IndexOutOfBoundsException, IllegalStateException {
        Party found = partyNumbered(party);
        requireWhole();
        return passes(found);
    }

    public int setMonitor(int party, boolean isOn)
            throws IndexOutOfBoundsException, IllegalStateException, UnsupportedOperationException {
        Party found = partyNumbered(party);
        requireWhole();
        requireNoRun();
        requireUnrefused(found);
        found.hasMonitor = isOn;
        return monitorCount();
    }

    public int begin(int capacity) throws IllegalArgumentException, IllegalStateException {
        if (!isWithin(capacity, 1, MOST_CAPACITY)) {
            throw new IllegalArgumentException("the capacity is not from 1 to 3");
        }
        requireWhole();
        requireNoRun();
        if (isRefusedWithMonitor()) {
            throw new IllegalStateException("a party with a monitor is refused");
        }
        allWereAdmitted = admittedCount() == partyCount();
        anyCancelCall = false;
        stepsOfRun = 0;
        Arrays.fill(stepsBeforeBlame, NONE);
        live.setUp(parties, capacity);
        explorer.isFresh = false;
        isInRun = true;
        return partyCount();
    }

    public int close() throws IllegalStateException {
        requireRun();
        isInRun = false;
        return stepsOfRun;
    }

    public char step(int party)
            throws IndexOutOfBoundsException, IllegalStateException, UnsupportedOperationException {
        Party found = running(party);
        int sign = live.advance(found);
        if (sign == BLAMED) {
            put(stepsBeforeBlame, party, stepsOfRun);
        }
        if (sign != BLOCKED) {
            stepsOfRun++;
            stepsOfAllRuns++;
            explorer.isFresh = false;
        }
        return (char) sign;
    }

    public int cancel(int party)
            throws IndexOutOfBoundsException, IllegalStateException, UnsupportedOperationException {
        Party found = running(party);
        anyCancelCall = true;
        explorer.isFresh = false;
        return live.stop(found.number, CANCELLED);
    }

    public char condition(int party) throws IndexOutOfBoundsException, IllegalStateException {
        partyNumbered(party);
        requireRun();
        return (char) live.conditionOf(party);
    }

    public int at(int party) throws IndexOutOfBoundsException, IllegalStateException {
        partyNumbered(party);
        requireRun();
        return live.instructionOf(party);
    }

    public int cellIn(int party, int name)
            throws IndexOutOfBoundsException, IllegalStateException, NoSuchElementException {
        partyNumbered(party);
        if (!isWithin(name, 0, NAMES - 1)) {
            throw new IndexOutOfBoundsException("there is no such name");
        }
        requireRun();
        int tag = live.tagIn(party, name);
        if (tag == 0) {
            throw new NoSuchElementException("the name holds nothing");
        }
        return tag - 1;
    }

    public int number(int party, int number) throws IndexOutOfBoundsException, IllegalStateException {
        partyNumbered(party);
        if (!isWithin(number, 0, NUMBERS - 1)) {
            throw new IndexOutOfBoundsException("there is no such number");
        }
        requireRun();
        return live.valueOf(party, number);
    }

    public int queued(int from, int to) throws IndexOutOfBoundsException, IllegalStateException {
        partyNumbered(from);
        partyNumbered(to);
        requireRun();
        return lengthOf(live.queueBetween(from, to));
    }

    public int messageAt(int from, int to, int index)
            throws IndexOutOfBoundsException, IllegalStateException, NoSuchElementException {
        partyNumbered(from);
        partyNumbered(to);
        requireRun();
        int queue = live.queueBetween(from, to);
        if (!isWithin(index, 0, lengthOf(queue) - 1)) {
            throw new NoSuchElementException("there is no such message");
        }
        return messageIn(queue, index);
    }

    public int stateOf(int party)
            throws IndexOutOfBoundsException, IllegalStateException, NoSuchElementException {
        Party found = partyNumbered(party);
        requireRun();
        if (!found.hasMonitor) {
            throw new NoSuchElementException("the party has no monitor");
        }
        return live.monitorStateOf(party);
    }

    public int blamedAt(int party)
            throws IndexOutOfBoundsException, IllegalStateException, NoSuchElementException {
        partyNumbered(party);
        requireRun();
        int before = get(stepsBeforeBlame, party);
        if (before == NONE) {
            throw new NoSuchElementException("the party was not blamed");
        }
        return before;
    }

    public int cellsInUse() throws IllegalStateException {
        requireRun();
        return live.cellCount();
    }

    public boolean isStuck() throws IllegalStateException {
        requireRun();
        return live.cannotMove(parties);
    }

    public int search() throws IllegalStateException, UnsupportedOperationException {
        requireRun();
        explorer.refresh(live, parties);
        requireFewReached();
        return explorer.stuckCount;
    }

    public int reached() throws IllegalStateException, UnsupportedOperationException {
        requireRun();
        explorer.refresh(live, parties);
        requireFewReached();
        return explorer.count;
    }

    public long steps() {
        return stepsOfAllRuns;
    }

    public double meanPlaces() throws IllegalStateException, ArithmeticException {
        requireWhole();
        int sum = 0;
        int count = 0;
        for (int number = 0; number < parties.length; number++) {
            Party party = parties[number];
            if (party != null && isUnrefused(party)) {
                checker.refresh(party);
                sum += party.placeCount;
                count++;
            }
        }
        if (count == 0) {
            throw new ArithmeticException("all parties are refused");
        }
        return (double) sum / (double) count;
    }

    public float admittedShare() throws IllegalStateException, ArithmeticException {
        requireWhole();
        int count = partyCount();
        if (count == 0) {
            throw new ArithmeticException("there are no parties");
        }
        return (float) admittedCount() / (float) count;
    }

    public boolean isConsistent() {
        if (!isInRun) {
            return true;
        }
        if (!live.holdsEachCellOnce()) {
            return false;
        }
        if (!allWereAdmitted || anyCancelCall) {
            return true;
        }
        return !live.hasStoppedEarly() && !live.cannotMove(parties);
    }

    private Party partyNumbered(int number) throws IndexOutOfBoundsException {
        Party found = number >= 0 && number < parties.length ? parties[number] : null;
        if (found == null) {
            throw new IndexOutOfBoundsException("there is no such party");
        }
        return found;
    }

    private void requireNode(int node) throws IndexOutOfBoundsException {
        if (!protocol.hasNode(node)) {
            throw new IndexOutOfBoundsException("there is no such node");
        }
    }

    private void requireRoomForNode() throws IllegalStateException {
        if (protocol.nodeCount >= MOST_NODES) {
            throw new IllegalStateException("there are 20 nodes");
        }
        requireNoRun();
    }

    private void requireNoRun() throws IllegalStateException {
        if (isInRun) {
            throw new IllegalStateException("a run has begun");
        }
    }

    private void requireRun() throws IllegalStateException {
        if (!isInRun) {
            throw new IllegalStateException("no run has begun");
        }
    }

    private void requireWhole() throws IllegalStateException {
        if (!protocol.isWhole()) {
            throw new IllegalStateException("the protocol is not whole");
        }
    }

    private void requireUnrefused(Party party) throws UnsupportedOperationException {
        party.projection.refresh(protocol, party.number);
        if (party.projection.reason != RIGHT) {
            throw new UnsupportedOperationException("the party is refused");
        }
    }

    private boolean isUnrefused(Party party) {
        party.projection.refresh(protocol, party.number);
        return party.projection.reason == RIGHT;
    }

    private Party unrefused(int number)
            throws IndexOutOfBoundsException, IllegalStateException, UnsupportedOperationException {
        Party found = partyNumbered(number);
        requireWhole();
        requireUnrefused(found);
        return found;
    }

    private Party checked(int number)
            throws IndexOutOfBoundsException, IllegalStateException, UnsupportedOperationException {
        Party found = partyNumbered(number);
        requireWhole();
        requireUnrefused(found);
        checker.refresh(found);
        return found;
    }

    private Party running(int number)
            throws IndexOutOfBoundsException, IllegalStateException, UnsupportedOperationException {
        Party found = partyNumbered(number);
        requireRun();
        if (live.conditionOf(number) != RUNS) {
            throw new UnsupportedOperationException("the party does not run");
        }
        return found;
    }

    private boolean passes(Party party) {
        party.projection.refresh(protocol, party.number);
        if (party.projection.reason != RIGHT) {
            return false;
        }
        checker.refresh(party);
        return party.faultReason == RIGHT;
    }

    private int admittedCount() {
        int count = 0;
        for (int number = 0; number < parties.length; number++) {
            Party party = parties[number];
            if (party != null && passes(party)) {
                count++;
            }
        }
        return count;
    }

    private int partyCount() {
        int count = 0;
        for (int number = 0; number < parties.length; number++) {
            if (parties[number] != null) {
                count++;
            }
        }
        return count;
    }

    private int monitorCount() {
        int count = 0;
        for (int number = 0; number < parties.length; number++) {
            Party party = parties[number];
            if (party != null && party.hasMonitor) {
                count++;
            }
        }
        return count;
    }

    private boolean isRefusedWithMonitor() {
        for (int number = 0; number < parties.length; number++) {
            Party party = parties[number];
            if (party != null && party.hasMonitor && !isUnrefused(party)) {
                return true;
            }
        }
        return false;
    }

    private boolean isInstruction(int party, int kind, int a, int b, int c) {
        switch (kind) {
            case MAKE:
            case USE_UP:
                return isWithin(a, 0, NAMES - 1) && b == 0 && c == 0;
            case MOVE:
                return isWithin(a, 0, NAMES - 1) && isWithin(b, 0, NAMES - 1) && c == 0;
            case JUMP:
                return isWithin(a, 0, MOST_INSTRUCTIONS - 1) && b == 0 && c == 0;
            case COUNT_DOWN:
                return isWithin(a, 0, NUMBERS - 1) && isWithin(b, 0, MOST_INSTRUCTIONS - 1) && c == 0;
            case SEND:
                return isOther(party, a) && isWithin(b, 0, LABELS - 1) && isWithin(c, NONE, NAMES - 1);
            case RECEIVE:
                return isOther(party, a) && b == 0 && c == 0;
            case END:
                return a == 0 && b == 0 && c == 0;
            default:
                return false;
        }
    }

    private boolean isOther(int party, int other) {
        return other != party && isWithin(other, 0, partyCount() - 1);
    }

    private void requireFewReached() throws UnsupportedOperationException {
        if (explorer.isTooMuch) {
            throw new UnsupportedOperationException("more than 1000 states can be reached");
        }
    }

    private static boolean isWithin(int value, int lowest, int highest) {
        return value >= lowest && value <= highest;
    }

    // Rows of numbers are read by get and written by put, so that no index can be wrong.
    private static int get(int[] row, int index) {
        return index >= 0 && index < row.length ? row[index] : 0;
    }

    private static void put(int[] row, int index, int value) {
        if (index >= 0 && index < row.length) {
            row[index] = value;
        }
    }

    // Sets of nodes, labels, names and parties are the bits of an int; a shift alone would wrap.
    private static boolean contains(int set, int element) {
        return element >= 0 && element < MOST_NODES && (set >> element & 1) != 0;
    }

    private static int with(int set, int element) {
        return isWithin(element, 0, MOST_NODES - 1) ? set | 1 << element : set;
    }

    private static int without(int set, int element) {
        return isWithin(element, 0, MOST_NODES - 1) ? set & ~(1 << element) : set;
    }

    // A queue is one int, so that states of a run are compared fast: ten bits a message, the next
    // one lowest, each as messageAt tells it plus 1, for 0 is where no message is.
    private static int lengthOf(int queue) {
        if (queue == 0) {
            return 0;
        }
        return queue < 1 << 10 ? 1 : queue < 1 << 20 ? 2 : 3;
    }

    private static int messageIn(int queue, int index) {
        return (queue >> 10 * index & 1023) - 1;
    }

    private static int appended(int queue, int message) {
        return queue | message + 1 << 10 * lengthOf(queue);
    }

    /** The nodes, their branches by label, and the start. */
    private static final class Protocol {
        private final int[] senders = new int[MOST_NODES];
        private final int[] receivers = new int[MOST_NODES];
        private final int[] labelSets = new int[MOST_NODES];
        private final int[] cellLabelSets = new int[MOST_NODES];
        private final int[] targetSets = new int[MOST_NODES];
        private final int[] targets = new int[MOST_NODES * LABELS];
        private int nodeCount;
        private int start = NONE;
        private int version;

        int putNode(int sender, int receiver) {
            put(senders, nodeCount, sender);
            put(receivers, nodeCount, receiver);
            version++;
            nodeCount++;
            return nodeCount - 1;
        }

        void putBranch(int node, int label, boolean hasCell, int target) {
            put(labelSets, node, with(get(labelSets, node), label));
            if (hasCell) {
                put(cellLabelSets, node, with(get(cellLabelSets, node), label));
            }
            put(targetSets, node, with(get(targetSets, node), target));
            put(targets, node * LABELS + label, target);
            version++;
        }

        int putStart(int node) {
            int before = start;
            start = node;
            version++;
            return before;
        }

        boolean hasNode(int node) {
            return node >= 0 && node < nodeCount;
        }

        boolean isMessage(int node) {
            return hasNode(node) && get(senders, node) != NONE;
        }

        boolean hasBranch(int node, int label) {
            return contains(get(labelSets, node), label);
        }

        int branchCount(int node) {
            return Integer.bitCount(get(labelSets, node));
        }

        boolean isWhole() {
            for (int node = 0; node < MOST_NODES; node++) {
                if (isMessage(node) && branchCount(node) == 0) {
                    return false;
                }
            }
            return start != NONE;
        }

        int messagesFrom(int party) {
            int set = 0;
            for (int node = 0; node < MOST_NODES; node++) {
                if (isMessage(node) && get(senders, node) == party) {
                    set = with(set, node);
                }
            }
            return set;
        }

        int messagesTo(int party) {
            int set = 0;
            for (int node = 0; node < MOST_NODES; node++) {
                if (isMessage(node) && get(receivers, node) == party) {
                    set = with(set, node);
                }
            }
            return set;
        }

        /** The nodes of a set and all behind them that are reached without passing a barrier. */
        int closure(int set, int barriers) {
            int closed = set;
            for (int round = 0; round < MOST_NODES; round++) {
                int wider = closed;
                for (int node = 0; node < MOST_NODES; node++) {
                    if (contains(wider & ~barriers, node)) {
                        wider |= get(targetSets, node);
                    }
                }
                if (wider == closed) {
                    return closed;
                }
                closed = wider;
            }
            return closed;
        }

        /** All nodes from which one of a set can be reached. */
        int leadingTo(int set) {
            int leading = set;
            for (int round = 0; round < MOST_NODES; round++) {
                int wider = leading;
                for (int node = 0; node < MOST_NODES; node++) {
                    if ((get(targetSets, node) & wider) != 0) {
                        wider = with(wider, node);
                    }
                }
                if (wider == leading) {
                    return leading;
                }
                leading = wider;
            }
            return leading;
        }

        /** The parties at the other side of some messages of a party. */
        int partnersOf(int party, int messages) {
            int set = 0;
            for (int node = 0; node < MOST_NODES; node++) {
                if (contains(messages, node)) {
                    int sender = get(senders, node);
                    set = with(set, sender == party ? get(receivers, node) : sender);
                }
            }
            return set;
        }

        int labelsOf(int messages) {
            int set = 0;
            for (int node = 0; node < MOST_NODES; node++) {
                if (contains(messages, node)) {
                    set |= get(labelSets, node);
                }
            }
            return set;
        }

        int labelsWithCell(int messages) {
            int set = 0;
            for (int node = 0; node < MOST_NODES; node++) {
                if (contains(messages, node)) {
                    set |= get(cellLabelSets, node);
                }
            }
            return set;
        }

        int labelsWithoutCell(int messages) {
            int set = 0;
            for (int node = 0; node < MOST_NODES; node++) {
                if (contains(messages, node)) {
                    set |= get(labelSets, node) & ~get(cellLabelSets, node);
                }
            }
            return set;
        }

        boolean haveSameLabels(int messages) {
            int all = labelsOf(messages);
            for (int node = 0; node < MOST_NODES; node++) {
                if (contains(messages, node) && get(labelSets, node) != all) {
                    return false;
                }
            }
            return true;
        }

        int targetsBy(int messages, int label) {
            int set = 0;
            for (int node = 0; node < MOST_NODES; node++) {
                if (contains(messages, node) && hasBranch(node, label)) {
                    set = with(set, get(targets, node * LABELS + label));
                }
            }
            return set;
        }
    }

    /** The local states of one party, or why it is refused. */
    private static final class Projection {
        private final int[] nodeSets = new int[MOST_STATES];
        private final int[] kinds = new int[MOST_STATES];
        private final int[] partners = new int[MOST_STATES];
        private final int[] labelSets = new int[MOST_STATES];
        private final int[] cellLabelSets = new int[MOST_STATES];
        private final int[] followers = new int[MOST_STATES * LABELS];
        private int stateCount;
        private int reason = RIGHT;
        private int version = NONE;

        /** Projects anew if the protocol, which must be whole, was changed since the last time. */
        void refresh(Protocol protocol, int party) {
            if (version == protocol.version) {
                return;
            }
            version = protocol.version;
            reason = RIGHT;
            put(nodeSets, 0, with(0, protocol.start));
            stateCount = 1;
            int sent = protocol.messagesFrom(party);
            int received = protocol.messagesTo(party);
            int leading = protocol.leadingTo(sent | received);
            for (int state = 0; state < stateCount && state < MOST_STATES && reason == RIGHT; state++) {
                int closed = protocol.closure(get(nodeSets, state), sent | received);
                boolean canMiss = (closed & ~leading) != 0;
                reason = reasonFor(protocol, party, closed & sent, closed & received, canMiss);
                if (reason == RIGHT) {
                    describe(protocol, party, state, closed & sent, closed & received);
                }
            }
        }

        private int reasonFor(Protocol protocol, int party, int sent, int received, boolean canMiss) {
            int own = sent | received;
            if (own == 0) {
                return RIGHT;
            }
            if (sent != 0 && received != 0) {
                return 'm';
            }
            if (canMiss) {
                return 'e';
            }
            if (Integer.bitCount(protocol.partnersOf(party, own)) != 1) {
                return 't';
            }
            if (sent != 0 && !protocol.haveSameLabels(sent)) {
                return 'l';
            }
            return (protocol.labelsWithCell(own) & protocol.labelsWithoutCell(own)) != 0 ? 'k' : RIGHT;
        }

        private void describe(Protocol protocol, int party, int state, int sent, int received) {
            int own = sent | received;
            put(kinds, state, own == 0 ? END : sent != 0 ? SEND : RECEIVE);
            put(partners, state, lowestOf(protocol.partnersOf(party, own)));
            put(labelSets, state, protocol.labelsOf(own));
            put(cellLabelSets, state, protocol.labelsWithCell(own));
            for (int label = 0; label < LABELS; label++) {
                int targets = protocol.targetsBy(own, label);
                put(followers, state * LABELS + label, targets == 0 ? NONE : stateWith(targets));
            }
        }

        private int lowestOf(int set) {
            for (int party = 0; party < MOST_PARTIES; party++) {
                if (contains(set, party)) {
                    return party;
                }
            }
            return NONE;
        }

        private int stateWith(int nodeSet) {
            for (int state = 0; state < stateCount; state++) {
                if (get(nodeSets, state) == nodeSet) {
                    return state;
                }
            }
            if (stateCount >= MOST_STATES) {
                reason = 'b';
                return NONE;
            }
            put(nodeSets, stateCount, nodeSet);
            stateCount++;
            return stateCount - 1;
        }

        boolean hasState(int state) {
            return state >= 0 && state < stateCount;
        }

        int kindAt(int state) {
            return get(kinds, state);
        }

        int partnerAt(int state) {
            return get(partners, state);
        }

        boolean hasLabel(int state, int label) {
            return contains(get(labelSets, state), label);
        }

        boolean carriesCell(int state, int label) {
            return contains(get(cellLabelSets, state), label);
        }

        int stateBehind(int state, int label) {
            return get(followers, state * LABELS + label);
        }
    }

    /** The instructions of one party and their cases by label. */
    private static final class Program {
        private final int[] kinds = new int[MOST_INSTRUCTIONS];
        private final int[] firsts = new int[MOST_INSTRUCTIONS];
        private final int[] seconds = new int[MOST_INSTRUCTIONS];
        private final int[] thirds = new int[MOST_INSTRUCTIONS];
        private final int[] caseSets = new int[MOST_INSTRUCTIONS];
        private final int[] caseNames = new int[MOST_INSTRUCTIONS * LABELS];
        private final int[] caseNexts = new int[MOST_INSTRUCTIONS * LABELS];
        private int instructionCount;
        private int version;

        int putInstruction(int kind, int a, int b, int c) {
            put(kinds, instructionCount, kind);
            put(firsts, instructionCount, a);
            put(seconds, instructionCount, b);
            put(thirds, instructionCount, c);
            version++;
            instructionCount++;
            return instructionCount - 1;
        }

        int putCase(int instruction, int label, int name, int next) {
            put(caseSets, instruction, with(get(caseSets, instruction), label));
            put(caseNames, instruction * LABELS + label, name);
            put(caseNexts, instruction * LABELS + label, next);
            version++;
            return Integer.bitCount(get(caseSets, instruction));
        }

        boolean hasInstruction(int instruction) {
            return instruction >= 0 && instruction < instructionCount;
        }

        /** The kind of an instruction, 0 if there is no such instruction. */
        int kindAt(int instruction) {
            return get(kinds, instruction);
        }

        int firstAt(int instruction) {
            return get(firsts, instruction);
        }

        int secondAt(int instruction) {
            return get(seconds, instruction);
        }

        int thirdAt(int instruction) {
            return get(thirds, instruction);
        }

        int caseSetAt(int instruction) {
            return get(caseSets, instruction);
        }

        boolean hasCase(int instruction, int label) {
            return contains(get(caseSets, instruction), label);
        }

        int caseName(int instruction, int label) {
            return get(caseNames, instruction * LABELS + label);
        }

        int caseNext(int instruction, int label) {
            return get(caseNexts, instruction * LABELS + label);
        }
    }

    /** One party with its program, its projection, and what the last check of it told. */
    private static final class Party {
        private final int number;
        private final Program program = new Program();
        private final Projection projection = new Projection();
        private final int[] numbers = new int[NUMBERS];
        private boolean hasMonitor;
        private int checkedProtocol = NONE;
        private int checkedProgram = NONE;
        private int faultReason = RIGHT;
        private int faultInstruction;
        private int placeCount;
        private int idleCaseCount;

        Party(int number) {
            this.number = number;
        }
    }

    /** Looks at the places of a party; its rows are used again for each check. */
    private static final class Checker {
        // A place is one int: 5 bits for the instruction, 6 for the state, 4 for the names.
        private static final int STATE_SHIFT = 4;
        private static final int INSTRUCTION_SHIFT = 10;
        private static final int MOST_PLACES = (MOST_INSTRUCTIONS + 1) * MOST_STATES << STATE_SHIFT;
        private static final int SEEN_WORDS = MOST_INSTRUCTIONS + 1 << INSTRUCTION_SHIFT - 5;

        private final int[] found = new int[MOST_PLACES];
        private final int[] seen = new int[SEEN_WORDS];
        private final int[] takenCases = new int[MOST_INSTRUCTIONS];
        private int foundCount;

        /** Checks a party anew if its program or its projection was changed since the last time. */
        void refresh(Party party) {
            if (party.checkedProtocol == party.projection.version
                    && party.checkedProgram == party.program.version) {
                return;
            }
            party.checkedProtocol = party.projection.version;
            party.checkedProgram = party.program.version;
            party.faultReason = RIGHT;
            Arrays.fill(seen, 0);
            Arrays.fill(takenCases, 0);
            foundCount = 0;
            find(0, 0, 0);
            party.placeCount = 0;
            for (int next = 0; next < foundCount && next < MOST_PLACES && party.faultReason == RIGHT; next++) {
                int place = get(found, next);
                int instruction = place >> INSTRUCTION_SHIFT;
                int state = place >> STATE_SHIFT & 63;
                int names = place & 15;
                party.placeCount++;
                party.faultInstruction = instruction;
                party.faultReason = reasonAt(party, instruction, state, names);
                if (party.faultReason == RIGHT) {
                    leadOn(party, instruction, state, names);
                }
            }
            party.idleCaseCount = idleCount(party.program);
        }

        private void find(int instruction, int state, int names) {
            int place = instruction << INSTRUCTION_SHIFT | state << STATE_SHIFT | names;
            int word = get(seen, place >> 5);
            int bit = 1 << (place & 31);
            if ((word & bit) == 0) {
                put(seen, place >> 5, word | bit);
                put(found, foundCount, place);
                foundCount++;
            }
        }

        private int reasonAt(Party party, int instruction, int state, int names) {
            Program program = party.program;
            int a = program.firstAt(instruction);
            switch (program.kindAt(instruction)) {
                case MAKE:
                    return contains(names, a) ? 'h' : RIGHT;
                case USE_UP:
                    return contains(names, a) ? RIGHT : 'h';
                case MOVE:
                    return contains(names, a) && !contains(names, program.secondAt(instruction)) ? RIGHT : 'h';
                case JUMP:
                case COUNT_DOWN:
                    return RIGHT;
                case SEND:
                    return reasonToSend(party, instruction, state, names);
                case RECEIVE:
                    return reasonToReceive(party, instruction, state, names);
                case END:
                    return party.projection.kindAt(state) != END ? 'q' : names != 0 ? 'k' : RIGHT;
                default:
                    return 'i';
            }
        }

        private int reasonToSend(Party party, int instruction, int state, int names) {
            int label = party.program.secondAt(instruction);
            int name = party.program.thirdAt(instruction);
            if (name != NONE && !contains(names, name)) {
                return 'h';
            }
            if (party.projection.kindAt(state) != SEND
                    || party.projection.partnerAt(state) != party.program.firstAt(instruction)) {
                return 'p';
            }
            if (!party.projection.hasLabel(state, label)) {
                return 'l';
            }
            return party.projection.carriesCell(state, label) != (name != NONE) ? 'c' : RIGHT;
        }

        private int reasonToReceive(Party party, int instruction, int state, int names) {
            if (party.projection.kindAt(state) != RECEIVE
                    || party.projection.partnerAt(state) != party.program.firstAt(instruction)) {
                return 'p';
            }
            for (int label = 0; label < LABELS; label++) {
                if (party.projection.hasLabel(state, label)) {
                    if (!party.program.hasCase(instruction, label)) {
                        return 'o';
                    }
                    int name = party.program.caseName(instruction, label);
                    if (party.projection.carriesCell(state, label) != (name != NONE)) {
                        return 'c';
                    }
                    if (contains(names, name)) {
                        return 'h';
                    }
                }
            }
            return RIGHT;
        }

        private void leadOn(Party party, int instruction, int state, int names) {
            int a = party.program.firstAt(instruction);
            int b = party.program.secondAt(instruction);
            switch (party.program.kindAt(instruction)) {
                case MAKE:
                    find(instruction + 1, state, with(names, a));
                    break;
                case USE_UP:
                    find(instruction + 1, state, without(names, a));
                    break;
                case MOVE:
                    find(instruction + 1, state, with(without(names, a), b));
                    break;
                case JUMP:
                    find(a, state, names);
                    break;
                case COUNT_DOWN:
                    find(instruction + 1, state, names);
                    find(b, state, names);
                    break;
                case SEND:
                    find(instruction + 1, party.projection.stateBehind(state, b),
                            without(names, party.program.thirdAt(instruction)));
                    break;
                case RECEIVE:
                    takeCases(party, instruction, state, names);
                    break;
                default:
                    break;
            }
        }

        private void takeCases(Party party, int instruction, int state, int names) {
            for (int label = 0; label < LABELS; label++) {
                if (party.projection.hasLabel(state, label)) {
                    put(takenCases, instruction, with(get(takenCases, instruction), label));
                    find(party.program.caseNext(instruction, label), party.projection.stateBehind(state, label),
                            with(names, party.program.caseName(instruction, label)));
                }
            }
        }

        private int idleCount(Program program) {
            int count = 0;
            for (int instruction = 0; instruction < MOST_INSTRUCTIONS; instruction++) {
                count += Integer.bitCount(program.caseSetAt(instruction) & ~get(takenCases, instruction));
            }
            return count;
        }
    }

    /** All that steps change in a run, in one row, so that a search can keep and compare it. */
    private static final class RunState {
        private static final int AT = 0;
        private static final int CONDITION = 1;
        private static final int MONITOR = 2;
        private static final int FIRST_NUMBER = 3;
        private static final int FIRST_NAME = FIRST_NUMBER + NUMBERS;
        private static final int PARTY_WIDTH = FIRST_NAME + NAMES;
        private static final int QUEUES = MOST_PARTIES * PARTY_WIDTH;
        private static final int IN_USE = QUEUES + MOST_PARTIES * MOST_PARTIES;
        private static final int CAPACITY = IN_USE + CELLS / 32;
        private static final int WIDTH = CAPACITY + 1;

        // A cell is told in it by its tag, which is 1 more than its number, for 0 is no cell.
        private final int[] row = new int[WIDTH];
        private final int[] holders = new int[CELLS];

        void setUp(Party[] parties, int capacity) {
            Arrays.fill(row, 0);
            put(row, CAPACITY, capacity);
            for (int number = 0; number < parties.length; number++) {
                Party party = parties[number];
                if (party != null) {
                    write(number, CONDITION, RUNS);
                    write(number, FIRST_NUMBER, get(party.numbers, 0));
                    write(number, FIRST_NUMBER + 1, get(party.numbers, 1));
                }
            }
        }

        private void write(int party, int field, int value) {
            put(row, party * PARTY_WIDTH + field, value);
        }

        int instructionOf(int party) {
            return get(row, party * PARTY_WIDTH + AT);
        }

        int conditionOf(int party) {
            return get(row, party * PARTY_WIDTH + CONDITION);
        }

        int monitorStateOf(int party) {
            return get(row, party * PARTY_WIDTH + MONITOR);
        }

        int valueOf(int party, int number) {
            return get(row, party * PARTY_WIDTH + FIRST_NUMBER + number);
        }

        int tagIn(int party, int name) {
            return get(row, party * PARTY_WIDTH + FIRST_NAME + name);
        }

        int queueBetween(int from, int to) {
            return get(row, QUEUES + from * MOST_PARTIES + to);
        }

        private void setQueue(int from, int to, int queue) {
            put(row, QUEUES + from * MOST_PARTIES + to, queue);
        }

        private void putTag(int party, int name, int tag) {
            write(party, FIRST_NAME + name, tag);
        }

        private boolean isInUse(int cell) {
            return (get(row, IN_USE + (cell >> 5)) >> (cell & 31) & 1) != 0;
        }

        private int tagOfNewCell() {
            for (int cell = 0; cell < CELLS; cell++) {
                if (!isInUse(cell)) {
                    int word = IN_USE + (cell >> 5);
                    put(row, word, get(row, word) | 1 << (cell & 31));
                    return cell + 1;
                }
            }
            return 0;
        }

        /** Makes the cell of a tag free, if there is one, and returns how many are free by this. */
        private int release(int tag) {
            if (tag == 0) {
                return 0;
            }
            int cell = tag - 1;
            int word = IN_USE + (cell >> 5);
            put(row, word, get(row, word) & ~(1 << (cell & 31)));
            return 1;
        }

        int cellCount() {
            return Integer.bitCount(get(row, IN_USE)) + Integer.bitCount(get(row, IN_USE + 1));
        }

        /** Makes the step of a party that runs and returns its sign. */
        int advance(Party party) {
            if (isBlocked(party)) {
                return BLOCKED;
            }
            int me = party.number;
            int here = instructionOf(me);
            int a = party.program.firstAt(here);
            int b = party.program.secondAt(here);
            int sign = FAILED;
            switch (party.program.kindAt(here)) {
                case MAKE:
                    sign = makeCell(me, a);
                    break;
                case USE_UP:
                    sign = useUp(me, a);
                    break;
                case MOVE:
                    sign = moveCell(me, a, b);
                    break;
                case JUMP:
                    sign = goOnAt(me, a);
                    break;
                case COUNT_DOWN:
                    sign = countDown(me, a, b);
                    break;
                case SEND:
                    sign = send(party, a, b, party.program.thirdAt(here));
                    break;
                case RECEIVE:
                    sign = receive(party, a, here);
                    break;
                case END:
                    sign = end(party);
                    break;
                default:
                    break;
            }
            if (sign != DONE) {
                stop(me, sign == BLAMED ? CANCELLED : sign);
            }
            return sign;
        }

        /** Tells whether a party that runs is blocked; a step that would fail is not. */
        boolean isBlocked(Party party) {
            int me = party.number;
            int here = instructionOf(me);
            int other = party.program.firstAt(here);
            int kind = party.program.kindAt(here);
            if (kind == SEND) {
                int name = party.program.thirdAt(here);
                boolean fails = name != NONE && tagIn(me, name) == 0;
                return !fails && conditionOf(other) == RUNS
                        && lengthOf(queueBetween(me, other)) >= get(row, CAPACITY);
            }
            return kind == RECEIVE && conditionOf(other) == RUNS && queueBetween(other, me) == 0;
        }

        private int goOnAt(int party, int instruction) {
            write(party, AT, instruction);
            return DONE;
        }

        private int goOn(int party) {
            write(party, AT, instructionOf(party) + 1);
            return DONE;
        }

        private int makeCell(int party, int name) {
            if (tagIn(party, name) != 0) {
                return FAILED;
            }
            putTag(party, name, tagOfNewCell());
            return goOn(party);
        }

        private int useUp(int party, int name) {
            if (tagIn(party, name) == 0) {
                return FAILED;
            }
            release(tagIn(party, name));
            putTag(party, name, 0);
            return goOn(party);
        }

        private int moveCell(int party, int name, int into) {
            if (tagIn(party, name) == 0 || tagIn(party, into) != 0) {
                return FAILED;
            }
            putTag(party, into, tagIn(party, name));
            putTag(party, name, 0);
            return goOn(party);
        }

        private int countDown(int party, int number, int instruction) {
            int value = valueOf(party, number);
            if (value == 0) {
                return goOnAt(party, instruction);
            }
            write(party, FIRST_NUMBER + number, value - 1);
            return goOn(party);
        }

        private int send(Party party, int to, int label, int name) {
            int me = party.number;
            int tag = name == NONE ? 0 : tagIn(me, name);
            if (name != NONE && tag == 0) {
                return FAILED;
            }
            if (isAgainstMonitor(party, SEND, to, label, tag != 0)) {
                return BLAMED;
            }
            if (name != NONE) {
                putTag(me, name, 0);
            }
            if (conditionOf(to) == RUNS) {
                setQueue(me, to, appended(queueBetween(me, to), 100 * label + tag));
            } else {
                release(tag);
            }
            leadMonitorOn(party, label);
            return goOn(me);
        }

        private int receive(Party party, int from, int here) {
            int me = party.number;
            int queue = queueBetween(from, me);
            if (queue == 0) {
                return CANCELLED;
            }
            int label = messageIn(queue, 0) / 100;
            int tag = messageIn(queue, 0) % 100;
            int name = party.program.caseName(here, label);
            if (!party.program.hasCase(here, label) || (name != NONE) != (tag != 0)) {
                return FAILED;
            }
            if (name != NONE && tagIn(me, name) != 0) {
                return FAILED;
            }
            if (isAgainstMonitor(party, RECEIVE, from, label, tag != 0)) {
                return BLAMED;
            }
            setQueue(from, me, queue >> 10);
            if (name != NONE) {
                putTag(me, name, tag);
            }
            leadMonitorOn(party, label);
            return goOnAt(me, party.program.caseNext(here, label));
        }

        private int end(Party party) {
            int kind = party.projection.kindAt(monitorStateOf(party.number));
            return party.hasMonitor && kind != END ? BLAMED : ENDED;
        }

        private boolean isAgainstMonitor(Party party, int kind, int partner, int label, boolean hasCell) {
            int state = monitorStateOf(party.number);
            Projection projection = party.projection;
            return party.hasMonitor && (projection.kindAt(state) != kind
                    || projection.partnerAt(state) != partner || !projection.hasLabel(state, label)
                    || projection.carriesCell(state, label) != hasCell);
        }

        private void leadMonitorOn(Party party, int label) {
            if (party.hasMonitor) {
                int state = monitorStateOf(party.number);
                write(party.number, MONITOR, party.projection.stateBehind(state, label));
            }
        }

        /** Takes a party out of the run and returns how many cells are free by this. */
        int stop(int party, int condition) {
            write(party, CONDITION, condition);
            int freed = 0;
            for (int name = 0; name < NAMES; name++) {
                freed += release(tagIn(party, name));
                putTag(party, name, 0);
            }
            for (int from = 0; from < MOST_PARTIES; from++) {
                freed += releaseAll(queueBetween(from, party));
                setQueue(from, party, 0);
            }
            return freed;
        }

        private int releaseAll(int queue) {
            int freed = 0;
            for (int index = 0; index < lengthOf(queue); index++) {
                freed += release(messageIn(queue, index) % 100);
            }
            return freed;
        }

        /** Tells whether a party runs and the step of each one that runs is blocked. */
        boolean cannotMove(Party[] parties) {
            boolean anyRuns = false;
            for (int number = 0; number < parties.length; number++) {
                Party party = parties[number];
                if (party != null && conditionOf(number) == RUNS) {
                    anyRuns = true;
                    if (!isBlocked(party)) {
                        return false;
                    }
                }
            }
            return anyRuns;
        }

        boolean hasStoppedEarly() {
            for (int party = 0; party < MOST_PARTIES; party++) {
                int condition = conditionOf(party);
                if (condition == FAILED || condition == CANCELLED) {
                    return true;
                }
            }
            return false;
        }

        boolean holdsEachCellOnce() {
            countHolders();
            for (int cell = 0; cell < CELLS; cell++) {
                if (get(holders, cell) != (isInUse(cell) ? 1 : 0)) {
                    return false;
                }
            }
            return true;
        }

        private void countHolders() {
            Arrays.fill(holders, 0);
            for (int party = 0; party < MOST_PARTIES; party++) {
                for (int name = 0; name < NAMES; name++) {
                    countHolder(tagIn(party, name));
                }
                for (int from = 0; from < MOST_PARTIES; from++) {
                    int queue = queueBetween(from, party);
                    for (int index = 0; index < lengthOf(queue); index++) {
                        countHolder(messageIn(queue, index) % 100);
                    }
                }
            }
        }

        private void countHolder(int tag) {
            put(holders, tag - 1, get(holders, tag - 1) + 1);
        }

        void copyFrom(int[] rows, int offset) {
            if (offset >= 0 && offset <= rows.length - WIDTH) {
                System.arraycopy(rows, offset, row, 0, WIDTH);
            }
        }

        void copyInto(int[] rows, int offset) {
            if (offset >= 0 && offset <= rows.length - WIDTH) {
                System.arraycopy(row, 0, rows, offset, WIDTH);
            }
        }

        boolean isSameAs(int[] rows, int offset) {
            for (int field = 0; field < row.length; field++) {
                if (row[field] != get(rows, offset + field)) {
                    return false;
                }
            }
            return true;
        }

        int spreadNumber() {
            int mixed = 0;
            for (int field = 0; field < row.length; field++) {
                mixed = (mixed ^ row[field]) * 16777619;
            }
            return mixed ^ mixed >>> 15;
        }
    }

    /** Follows all orders of steps; its rows are used again for each search. */
    private static final class Explorer {
        private static final int SLOTS = 2048;

        private final int[] rows = new int[MOST_REACHED * RunState.WIDTH];
        private final int[] slots = new int[SLOTS];
        private final RunState trial = new RunState();
        private int count;
        private int stuckCount;
        private boolean isTooMuch;
        private boolean isFresh;

        /** Searches anew if the state of the run was changed since the last time. */
        void refresh(RunState from, Party[] parties) {
            if (isFresh) {
                return;
            }
            Arrays.fill(slots, 0);
            count = 0;
            stuckCount = 0;
            isTooMuch = false;
            isFresh = true;
            from.copyInto(rows, 0);
            trial.copyFrom(rows, 0);
            keepTrial();
            for (int index = 0; index < count && index < MOST_REACHED && !isTooMuch; index++) {
                followFrom(index, parties);
            }
        }

        private void followFrom(int index, Party[] parties) {
            int offset = index * RunState.WIDTH;
            trial.copyFrom(rows, offset);
            if (trial.cannotMove(parties)) {
                stuckCount++;
            }
            for (int number = 0; number < parties.length && !isTooMuch; number++) {
                Party party = parties[number];
                trial.copyFrom(rows, offset);
                if (party != null && trial.conditionOf(number) == RUNS && trial.advance(party) != BLOCKED) {
                    keepTrial();
                }
            }
        }

        // Each slot holds 1 more than the number of a state; the table is never full.
        private void keepTrial() {
            int slot = trial.spreadNumber() & SLOTS - 1;
            for (int tries = 0; tries < SLOTS; tries++) {
                int kept = get(slots, slot) - 1;
                if (kept == NONE) {
                    keepTrialIn(slot);
                    return;
                }
                if (trial.isSameAs(rows, kept * RunState.WIDTH)) {
                    return;
                }
                slot = slot + 1 & SLOTS - 1;
            }
        }

        private void keepTrialIn(int slot) {
            if (count >= MOST_REACHED) {
                isTooMuch = true;
                return;
            }
            put(slots, slot, count + 1);
            trial.copyInto(rows, count * RunState.WIDTH);
            count++;
        }
    }
}
