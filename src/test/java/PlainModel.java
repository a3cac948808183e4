import java.util.ArrayDeque;
import java.util.ArrayList;
import java.util.Deque;
import java.util.HashSet;
import java.util.LinkedHashSet;
import java.util.List;
import java.util.NoSuchElementException;
import java.util.Set;
import java.util.TreeMap;
import java.util.TreeSet;

/**
 * The document told again in the plainest way, with the Java library's collections and without any
 * thought of speed, so that the program can be compared with it call by call.
 */
final class PlainModel {
    record Branch(boolean hasCell, int next) { }

    record Case(int name, int next) { }

    record Follow(int state, boolean hasCell) { }

    record Place(int instruction, int state, Set<Integer> names) { }

    record Message(int label, Integer cell) { }

    static final class Node {
        final boolean isEnd;
        final int from;
        final int to;
        final TreeMap<Integer, Branch> branches = new TreeMap<>();

        Node(boolean isEnd, int from, int to) {
            this.isEnd = isEnd;
            this.from = from;
            this.to = to;
        }

        boolean concerns(int party) {
            return !isEnd && (from == party || to == party);
        }
    }

    static final class Instruction {
        final char kind;
        final int a;
        final int b;
        final int c;
        final TreeMap<Integer, Case> cases = new TreeMap<>();

        Instruction(char kind, int a, int b, int c) {
            this.kind = kind;
            this.a = a;
            this.b = b;
            this.c = c;
        }
    }

    static final class Local {
        char kind;
        int partner = -1;
        final TreeMap<Integer, Follow> follows = new TreeMap<>();
    }

    static final class View {
        char refusal = '-';
        final List<Set<Integer>> sets = new ArrayList<>();
        final List<Local> locals = new ArrayList<>();
    }

    static final class Outcome {
        char fault = '-';
        int faultAt;
        int places;
        int idle;
    }

    /** What the parties of a run have; two that are the same tell the same text. */
    static final class Scene {
        final int capacity;
        final int[] at;
        final char[] condition;
        final int[][] numbers;
        final Integer[][] names;
        final int[] states;
        final List<List<Deque<Message>>> queues = new ArrayList<>();
        final TreeSet<Integer> inUse = new TreeSet<>();

        Scene(int parties, int capacity) {
            this.capacity = capacity;
            at = new int[parties];
            condition = new char[parties];
            numbers = new int[parties][2];
            names = new Integer[parties][4];
            states = new int[parties];
            for (int from = 0; from < parties; from++) {
                condition[from] = 'r';
                queues.add(new ArrayList<>());
                for (int to = 0; to < parties; to++) {
                    queues.get(from).add(new ArrayDeque<>());
                }
            }
        }

        Scene copy() {
            Scene copy = new Scene(at.length, capacity);
            for (int party = 0; party < at.length; party++) {
                copy.at[party] = at[party];
                copy.condition[party] = condition[party];
                copy.numbers[party] = numbers[party].clone();
                copy.names[party] = names[party].clone();
                copy.states[party] = states[party];
                for (int to = 0; to < at.length; to++) {
                    copy.queue(party, to).addAll(queue(party, to));
                }
            }
            copy.inUse.addAll(inUse);
            return copy;
        }

        Deque<Message> queue(int from, int to) {
            return queues.get(from).get(to);
        }

        String text() {
            StringBuilder text = new StringBuilder();
            for (int party = 0; party < at.length; party++) {
                text.append(at[party]).append(condition[party]).append(numbers[party][0]).append(',');
                text.append(numbers[party][1]).append(List.of(text(names[party]))).append(states[party]);
                text.append(queues.get(party)).append(';');
            }
            return text.toString();
        }

        private static String text(Integer[] row) {
            return java.util.Arrays.toString(row);
        }
    }

    private final int stateLimit;
    private int partyCount;
    private final List<Node> nodes = new ArrayList<>();
    private int start = -1;
    private final List<List<Instruction>> programs = new ArrayList<>();
    private final int[][] firstNumbers = new int[4][2];
    private final boolean[] monitors = new boolean[4];
    private Scene scene;
    private boolean admittedAtBegin;
    private boolean cancelCalled;
    private long stepsOfRun;
    private long stepsBefore;
    private final Long[] blamed = new Long[4];

    PlainModel() {
        this(40);
    }

    PlainModel(int stateLimit) {
        this.stateLimit = stateLimit;
    }

    private void party(int party) {
        if (party < 0 || party >= partyCount) {
            throw new IndexOutOfBoundsException();
        }
    }

    private void node(int node) {
        if (node < 0 || node >= nodes.size()) {
            throw new IndexOutOfBoundsException();
        }
    }

    private static void argument(boolean isRight) {
        if (!isRight) {
            throw new IllegalArgumentException();
        }
    }

    private static void state(boolean isRight) {
        if (!isRight) {
            throw new IllegalStateException();
        }
    }

    private static void element(boolean isThere) {
        if (!isThere) {
            throw new NoSuchElementException();
        }
    }

    private static boolean in(int value, int low, int high) {
        return low <= value && value <= high;
    }

    private boolean isWhole() {
        return start >= 0 && nodes.stream().allMatch(n -> n.isEnd || !n.branches.isEmpty());
    }

    // ---- protocol

    public int addParty() {
        state(partyCount < 4 && scene == null);
        programs.add(new ArrayList<>());
        return partyCount++;
    }

    public int addMessage(int from, int to) {
        party(from);
        party(to);
        argument(from != to);
        state(nodes.size() < 20 && scene == null);
        nodes.add(new Node(false, from, to));
        return nodes.size() - 1;
    }

    public int addEnd() {
        state(nodes.size() < 20 && scene == null);
        nodes.add(new Node(true, -1, -1));
        return nodes.size() - 1;
    }

    public int addBranch(int node, int label, boolean hasCell, int next) {
        node(node);
        node(next);
        Node message = nodes.get(node);
        argument(!message.isEnd && in(label, 0, 5));
        state(message.branches.size() < 3 && !message.branches.containsKey(label) && scene == null);
        message.branches.put(label, new Branch(hasCell, next));
        return message.branches.size();
    }

    public int setStart(int node) {
        node(node);
        state(scene == null);
        int before = start;
        start = node;
        return before;
    }

    private Set<Integer> closure(Set<Integer> set, int party) {
        Set<Integer> closed = new TreeSet<>(set);
        boolean grows = true;
        while (grows) {
            Set<Integer> more = new TreeSet<>();
            for (int n : closed) {
                if (!nodes.get(n).concerns(party)) {
                    nodes.get(n).branches.values().forEach(b -> more.add(b.next()));
                }
            }
            grows = closed.addAll(more);
        }
        return closed;
    }

    private boolean canReachMessageOf(int party, int node) {
        Set<Integer> reached = new TreeSet<>(Set.of(node));
        Deque<Integer> open = new ArrayDeque<>(reached);
        while (!open.isEmpty()) {
            Node here = nodes.get(open.remove());
            if (here.concerns(party)) {
                return true;
            }
            for (Branch branch : here.branches.values()) {
                if (reached.add(branch.next())) {
                    open.add(branch.next());
                }
            }
        }
        return false;
    }

    private char reasonOf(int party, Set<Integer> closed) {
        List<Node> own = closed.stream().map(nodes::get).filter(n -> n.concerns(party)).toList();
        if (own.isEmpty()) {
            return '-';
        }
        boolean sends = own.stream().anyMatch(n -> n.from == party);
        boolean receives = own.stream().anyMatch(n -> n.to == party);
        if (sends && receives) {
            return 'm';
        }
        if (!closed.stream().allMatch(n -> canReachMessageOf(party, n))) {
            return 'e';
        }
        if (own.stream().map(n -> sends ? n.to : n.from).distinct().count() > 1) {
            return 't';
        }
        if (sends && own.stream().map(n -> n.branches.keySet()).distinct().count() > 1) {
            return 'l';
        }
        for (int label = 0; label < 6; label++) {
            Set<Boolean> carried = new HashSet<>();
            for (Node message : own) {
                if (message.branches.containsKey(label)) {
                    carried.add(message.branches.get(label).hasCell());
                }
            }
            if (carried.size() > 1) {
                return 'k';
            }
        }
        return '-';
    }

    private View view(int party) {
        View view = new View();
        view.sets.add(new TreeSet<>(Set.of(start)));
        for (int number = 0; number < view.sets.size(); number++) {
            Set<Integer> closed = closure(view.sets.get(number), party);
            view.refusal = reasonOf(party, closed);
            if (view.refusal != '-') {
                return view;
            }
            Local local = new Local();
            local.kind = 'e';
            view.locals.add(local);
            for (int n : closed) {
                if (nodes.get(n).concerns(party)) {
                    local.kind = nodes.get(n).from == party ? 's' : 'r';
                    local.partner = nodes.get(n).from == party ? nodes.get(n).to : nodes.get(n).from;
                }
            }
            for (int label = 0; label < 6; label++) {
                Set<Integer> next = new TreeSet<>();
                boolean hasCell = false;
                for (int n : closed) {
                    Branch branch = nodes.get(n).branches.get(label);
                    if (nodes.get(n).concerns(party) && branch != null) {
                        next.add(branch.next());
                        hasCell |= branch.hasCell();
                    }
                }
                if (!next.isEmpty()) {
                    if (!view.sets.contains(next)) {
                        if (view.sets.size() == stateLimit) {
                            view.refusal = 'b';
                            return view;
                        }
                        view.sets.add(next);
                    }
                    local.follows.put(label, new Follow(view.sets.indexOf(next), hasCell));
                }
            }
        }
        return view;
    }

    public char refusal(int party) {
        party(party);
        state(isWhole());
        return view(party).refusal;
    }

    private View accepted(int party) {
        party(party);
        state(isWhole());
        View view = view(party);
        if (view.refusal != '-') {
            throw new UnsupportedOperationException();
        }
        return view;
    }

    public int states(int party) {
        return accepted(party).locals.size();
    }

    public char kindOf(int party, int state) {
        View view = accepted(party);
        element(in(state, 0, view.locals.size() - 1));
        return view.locals.get(state).kind;
    }

    public int partnerOf(int party, int state) {
        View view = accepted(party);
        element(in(state, 0, view.locals.size() - 1) && view.locals.get(state).kind != 'e');
        return view.locals.get(state).partner;
    }

    public int follower(int party, int state, int label) {
        View view = accepted(party);
        element(in(state, 0, view.locals.size() - 1) && view.locals.get(state).follows.containsKey(label));
        Follow follow = view.locals.get(state).follows.get(label);
        return follow.state() + (follow.hasCell() ? 100 : 0);
    }

    // ---- programs

    private boolean isOther(int party, int other) {
        return other != party && in(other, 0, partyCount - 1);
    }

    public int add(int party, char kind, int a, int b, int c) {
        party(party);
        boolean isRight;
        if (kind == 'n' || kind == 'u') {
            isRight = in(a, 0, 3) && b == 0 && c == 0;
        } else if (kind == 'm') {
            isRight = in(a, 0, 3) && in(b, 0, 3) && c == 0;
        } else if (kind == 'j') {
            isRight = in(a, 0, 19) && b == 0 && c == 0;
        } else if (kind == 'd') {
            isRight = in(a, 0, 1) && in(b, 0, 19) && c == 0;
        } else if (kind == 's') {
            isRight = isOther(party, a) && in(b, 0, 5) && in(c, -1, 3);
        } else if (kind == 'r') {
            isRight = isOther(party, a) && b == 0 && c == 0;
        } else {
            isRight = kind == 'e' && a == 0 && b == 0 && c == 0;
        }
        argument(isRight);
        List<Instruction> program = programs.get(party);
        state(program.size() < 20 && scene == null);
        program.add(new Instruction(kind, a, b, c));
        return program.size() - 1;
    }

    public int addCase(int party, int instruction, int label, int name, int next) {
        party(party);
        if (instruction < 0 || instruction >= programs.get(party).size()) {
            throw new IndexOutOfBoundsException();
        }
        Instruction receive = programs.get(party).get(instruction);
        argument(receive.kind == 'r' && in(label, 0, 5) && in(name, -1, 3) && in(next, 0, 19));
        state(!receive.cases.containsKey(label) && scene == null);
        receive.cases.put(label, new Case(name, next));
        return receive.cases.size();
    }

    public int setNumber(int party, int number, int value) {
        party(party);
        argument(in(number, 0, 1) && in(value, 0, 9));
        state(scene == null);
        int before = firstNumbers[party][number];
        firstNumbers[party][number] = value;
        return before;
    }

    private static char faultFor(List<Instruction> program, Place place, View view) {
        if (place.instruction() >= program.size()) {
            return 'i';
        }
        Instruction i = program.get(place.instruction());
        Set<Integer> names = place.names();
        Local local = view.locals.get(place.state());
        if (i.kind == 'u' && !names.contains(i.a) || i.kind == 'n' && names.contains(i.a)) {
            return 'h';
        }
        if (i.kind == 'm' && (i.a == i.b || !names.contains(i.a) || names.contains(i.b))) {
            return 'h';
        }
        if (i.kind == 's' && i.c >= 0 && !names.contains(i.c)) {
            return 'h';
        }
        if ((i.kind == 's' || i.kind == 'r') && (local.kind != i.kind || local.partner != i.a)) {
            return 'p';
        }
        if (i.kind == 's') {
            if (!local.follows.containsKey(i.b)) {
                return 'l';
            }
            return local.follows.get(i.b).hasCell() == i.c >= 0 ? '-' : 'c';
        }
        if (i.kind == 'r') {
            for (int label : local.follows.keySet()) {
                Case taken = i.cases.get(label);
                if (taken == null) {
                    return 'o';
                }
                if (local.follows.get(label).hasCell() != taken.name() >= 0) {
                    return 'c';
                }
                if (names.contains(taken.name())) {
                    return 'h';
                }
            }
        }
        if (i.kind == 'e') {
            return local.kind != 'e' ? 'q' : !names.isEmpty() ? 'k' : '-';
        }
        return '-';
    }

    private static Set<Integer> changed(Set<Integer> names, int removed, int added) {
        Set<Integer> changed = new TreeSet<>(names);
        changed.remove(removed);
        if (added >= 0) {
            changed.add(added);
        }
        return changed;
    }

    private static List<Place> behind(Instruction i, Place place, View view) {
        int next = place.instruction() + 1;
        int state = place.state();
        Set<Integer> names = place.names();
        Local local = view.locals.get(state);
        switch (i.kind) {
            case 'n': return List.of(new Place(next, state, changed(names, -1, i.a)));
            case 'u': return List.of(new Place(next, state, changed(names, i.a, -1)));
            case 'm': return List.of(new Place(next, state, changed(names, i.a, i.b)));
            case 'j': return List.of(new Place(i.a, state, names));
            case 'd': return List.of(new Place(next, state, names), new Place(i.b, state, names));
            case 's': return List.of(new Place(next, local.follows.get(i.b).state(), changed(names, i.c, -1)));
            case 'r':
                List<Place> places = new ArrayList<>();
                local.follows.forEach((label, follow) -> places.add(new Place(i.cases.get(label).next(),
                        follow.state(), changed(names, -1, i.cases.get(label).name()))));
                return places;
            default: return List.of();
        }
    }

    private Outcome check(int party, View view) {
        List<Instruction> program = programs.get(party);
        Outcome outcome = new Outcome();
        LinkedHashSet<Place> found = new LinkedHashSet<>();
        Deque<Place> open = new ArrayDeque<>();
        Set<List<Integer>> taken = new HashSet<>();
        found.add(new Place(0, 0, new TreeSet<>()));
        open.addAll(found);
        while (!open.isEmpty() && outcome.fault == '-') {
            Place place = open.remove();
            outcome.places++;
            outcome.fault = faultFor(program, place, view);
            outcome.faultAt = place.instruction();
            if (outcome.fault == '-') {
                Instruction i = program.get(place.instruction());
                if (i.kind == 'r') {
                    view.locals.get(place.state()).follows.keySet()
                            .forEach(label -> taken.add(List.of(place.instruction(), label)));
                }
                for (Place next : behind(i, place, view)) {
                    if (found.add(next)) {
                        open.add(next);
                    }
                }
            }
        }
        outcome.idle = program.stream().mapToInt(i -> i.cases.size()).sum() - taken.size();
        return outcome;
    }

    public char fault(int party) {
        return check(party, accepted(party)).fault;
    }

    public int faultAt(int party) {
        Outcome outcome = check(party, accepted(party));
        element(outcome.fault != '-');
        return outcome.faultAt;
    }

    public int places(int party) {
        return check(party, accepted(party)).places;
    }

    public int idleCases(int party) {
        return check(party, accepted(party)).idle;
    }

    public boolean isAdmitted(int party) {
        party(party);
        state(isWhole());
        View view = view(party);
        return view.refusal == '-' && check(party, view).fault == '-';
    }

    // ---- run

    public int setMonitor(int party, boolean isOn) {
        party(party);
        state(isWhole() && scene == null);
        accepted(party);
        monitors[party] = isOn;
        int count = 0;
        for (boolean monitor : monitors) {
            count += monitor ? 1 : 0;
        }
        return count;
    }

    public int begin(int capacity) {
        argument(in(capacity, 1, 3));
        state(isWhole() && scene == null);
        admittedAtBegin = true;
        for (int party = 0; party < partyCount; party++) {
            state(!monitors[party] || view(party).refusal == '-');
            admittedAtBegin &= isAdmitted(party);
            blamed[party] = null;
        }
        scene = new Scene(partyCount, capacity);
        for (int party = 0; party < partyCount; party++) {
            scene.numbers[party] = firstNumbers[party].clone();
        }
        cancelCalled = false;
        stepsOfRun = 0;
        return partyCount;
    }

    public int close() {
        state(scene != null);
        scene = null;
        stepsBefore += stepsOfRun;
        int made = (int) stepsOfRun;
        stepsOfRun = 0;
        return made;
    }

    private int release(Scene s, int party, char condition) {
        s.condition[party] = condition;
        int before = s.inUse.size();
        for (int name = 0; name < 4; name++) {
            if (s.names[party][name] != null) {
                s.inUse.remove(s.names[party][name]);
                s.names[party][name] = null;
            }
        }
        for (int from = 0; from < partyCount; from++) {
            for (Message message : s.queue(from, party)) {
                if (message.cell() != null) {
                    s.inUse.remove(message.cell());
                }
            }
            s.queue(from, party).clear();
        }
        return before - s.inUse.size();
    }

    private boolean fails(Scene s, int party) {
        List<Instruction> program = programs.get(party);
        if (s.at[party] >= program.size()) {
            return true;
        }
        Instruction i = program.get(s.at[party]);
        Integer[] names = s.names[party];
        switch (i.kind) {
            case 'n': return names[i.a] != null;
            case 'u': return names[i.a] == null;
            case 'm': return i.a == i.b || names[i.a] == null || names[i.b] != null;
            case 's': return i.c >= 0 && names[i.c] == null;
            case 'r':
                Message message = s.queue(i.a, party).peek();
                if (message == null) {
                    return false;
                }
                Case taken = i.cases.get(message.label());
                return taken == null || message.cell() != null != taken.name() >= 0
                        || taken.name() >= 0 && names[taken.name()] != null;
            default: return false;
        }
    }

    private boolean isBlocked(Scene s, int party) {
        if (fails(s, party)) {
            return false;
        }
        Instruction i = programs.get(party).get(s.at[party]);
        if (i.kind == 's') {
            return s.condition[i.a] == 'r' && s.queue(party, i.a).size() >= s.capacity;
        }
        return i.kind == 'r' && s.condition[i.a] == 'r' && s.queue(i.a, party).isEmpty();
    }

    private boolean isAgainstMonitor(Scene s, int party, Instruction i) {
        if (!monitors[party] || i.kind != 's' && i.kind != 'r' && i.kind != 'e') {
            return false;
        }
        Local local = view(party).locals.get(s.states[party]);
        if (i.kind == 'e') {
            return local.kind != 'e';
        }
        int label = i.kind == 's' ? i.b : s.queue(i.a, party).peek().label();
        boolean hasCell = i.kind == 's' ? i.c >= 0 : s.queue(i.a, party).peek().cell() != null;
        if (local.kind != i.kind || local.partner != i.a || !local.follows.containsKey(label)
                || local.follows.get(label).hasCell() != hasCell) {
            return true;
        }
        s.states[party] = local.follows.get(label).state();
        return false;
    }

    private char makeStep(Scene s, int party) {
        if (fails(s, party)) {
            release(s, party, 'x');
            return 'x';
        }
        if (isBlocked(s, party)) {
            return 'b';
        }
        Instruction i = programs.get(party).get(s.at[party]);
        if (i.kind == 'r' && s.queue(i.a, party).isEmpty()) {
            release(s, party, 'c');
            return 'c';
        }
        if (isAgainstMonitor(s, party, i)) {
            release(s, party, 'c');
            return 'v';
        }
        if (i.kind == 'e') {
            release(s, party, 'e');
            return 'e';
        }
        carryOut(s, party, i, s.names[party]);
        return 'd';
    }

    private void carryOut(Scene s, int party, Instruction i, Integer[] names) {
        int next = s.at[party] + 1;
        if (i.kind == 'n') {
            int cell = 0;
            while (s.inUse.contains(cell)) {
                cell++;
            }
            s.inUse.add(cell);
            names[i.a] = cell;
        } else if (i.kind == 'u') {
            s.inUse.remove(names[i.a]);
            names[i.a] = null;
        } else if (i.kind == 'm') {
            names[i.b] = names[i.a];
            names[i.a] = null;
        } else if (i.kind == 'j') {
            next = i.a;
        } else if (i.kind == 'd') {
            if (s.numbers[party][i.a] == 0) {
                next = i.b;
            } else {
                s.numbers[party][i.a]--;
            }
        } else if (i.kind == 's') {
            Integer cell = i.c < 0 ? null : names[i.c];
            if (i.c >= 0) {
                names[i.c] = null;
            }
            if (s.condition[i.a] == 'r') {
                s.queue(party, i.a).add(new Message(i.b, cell));
            } else if (cell != null) {
                s.inUse.remove(cell);
            }
        } else {
            Message message = s.queue(i.a, party).remove();
            Case taken = i.cases.get(message.label());
            if (taken.name() >= 0) {
                names[taken.name()] = message.cell();
            }
            next = taken.next();
        }
        s.at[party] = next;
    }

    private void running(int party) {
        party(party);
        state(scene != null);
        if (scene.condition[party] != 'r') {
            throw new UnsupportedOperationException();
        }
    }

    private void inRun(int party) {
        party(party);
        state(scene != null);
    }

    public char step(int party) {
        running(party);
        char sign = makeStep(scene, party);
        if (sign == 'v') {
            blamed[party] = stepsOfRun;
        }
        stepsOfRun += sign == 'b' ? 0 : 1;
        return sign;
    }

    public int cancel(int party) {
        running(party);
        cancelCalled = true;
        return release(scene, party, 'c');
    }

    public char condition(int party) {
        inRun(party);
        return scene.condition[party];
    }

    public int at(int party) {
        inRun(party);
        return scene.at[party];
    }

    public int cellIn(int party, int name) {
        party(party);
        if (!in(name, 0, 3)) {
            throw new IndexOutOfBoundsException();
        }
        state(scene != null);
        element(scene.names[party][name] != null);
        return scene.names[party][name];
    }

    public int number(int party, int number) {
        party(party);
        if (!in(number, 0, 1)) {
            throw new IndexOutOfBoundsException();
        }
        state(scene != null);
        return scene.numbers[party][number];
    }

    public int queued(int from, int to) {
        party(from);
        inRun(to);
        return scene.queue(from, to).size();
    }

    public int messageAt(int from, int to, int index) {
        party(from);
        inRun(to);
        List<Message> queue = new ArrayList<>(scene.queue(from, to));
        element(in(index, 0, queue.size() - 1));
        Message message = queue.get(index);
        return 100 * message.label() + (message.cell() == null ? 0 : 1 + message.cell());
    }

    public int stateOf(int party) {
        inRun(party);
        element(monitors[party]);
        return scene.states[party];
    }

    public int blamedAt(int party) {
        inRun(party);
        element(blamed[party] != null);
        return (int) (long) blamed[party];
    }

    public int cellsInUse() {
        state(scene != null);
        return scene.inUse.size();
    }

    private boolean isStuck(Scene s) {
        boolean anyRuns = false;
        boolean allBlocked = true;
        for (int party = 0; party < partyCount; party++) {
            if (s.condition[party] == 'r') {
                anyRuns = true;
                allBlocked &= isBlocked(s, party);
            }
        }
        return anyRuns && allBlocked;
    }

    public boolean isStuck() {
        state(scene != null);
        return isStuck(scene);
    }

    private int[] explore() {
        state(scene != null);
        Set<String> seen = new HashSet<>(Set.of(scene.text()));
        Deque<Scene> open = new ArrayDeque<>(List.of(scene));
        int stuck = 0;
        while (!open.isEmpty()) {
            Scene here = open.remove();
            stuck += isStuck(here) ? 1 : 0;
            for (int party = 0; party < partyCount; party++) {
                if (here.condition[party] == 'r') {
                    Scene next = here.copy();
                    if (makeStep(next, party) != 'b' && seen.add(next.text())) {
                        open.add(next);
                    }
                }
            }
            if (seen.size() > 1000) {
                throw new UnsupportedOperationException();
            }
        }
        return new int[] {seen.size(), stuck};
    }

    public int search() {
        return explore()[1];
    }

    public int reached() {
        return explore()[0];
    }

    public long steps() {
        return stepsBefore + stepsOfRun;
    }

    public double meanPlaces() {
        state(isWhole());
        int sum = 0;
        int count = 0;
        for (int party = 0; party < partyCount; party++) {
            View view = view(party);
            if (view.refusal == '-') {
                sum += check(party, view).places;
                count++;
            }
        }
        if (count == 0) {
            throw new ArithmeticException();
        }
        return (double) sum / (double) count;
    }

    public float admittedShare() {
        state(isWhole());
        if (partyCount == 0) {
            throw new ArithmeticException();
        }
        int count = 0;
        for (int party = 0; party < partyCount; party++) {
            count += isAdmitted(party) ? 1 : 0;
        }
        return (float) count / (float) partyCount;
    }

    public boolean isConsistent() {
        if (scene == null) {
            return true;
        }
        List<Integer> held = new ArrayList<>();
        for (int party = 0; party < partyCount; party++) {
            for (Integer cell : scene.names[party]) {
                if (cell != null) {
                    held.add(cell);
                }
            }
            for (Deque<Message> queue : scene.queues.get(party)) {
                for (Message message : queue) {
                    if (message.cell() != null) {
                        held.add(message.cell());
                    }
                }
            }
        }
        held.sort(null);
        if (!held.equals(new ArrayList<>(scene.inUse))) {
            return false;
        }
        if (!admittedAtBegin || cancelCalled) {
            return true;
        }
        for (char condition : scene.condition) {
            if (condition == 'x' || condition == 'c') {
                return false;
            }
        }
        return !isStuck(scene);
    }
}
