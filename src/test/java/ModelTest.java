import java.util.ArrayList;
import java.util.List;
import java.util.TreeMap;

/** Makes the same calls on the program and on PlainModel; each answer must be the same. */
public final class ModelTest {
    private static final String[] KINDS = {"n", "u", "m", "j", "d", "s", "r", "e"};
    private static final TreeMap<String, Integer> SEEN = new TreeMap<>();

    private final Caller program = new Caller(new QuantityQuarry());
    private final Caller model = new Caller(new PlainModel());
    private final StringBuilder calls = new StringBuilder();
    private final int seed;
    private long random;
    private int parties;
    private int nodes;
    private int mistakes;

    private ModelTest(int seed) {
        this.seed = seed;
        random = seed * 0x9E3779B97F4A7C15L + 12345;
    }

    private int below(int bound) {
        random = random * 6364136223846793005L + 1442695040888963407L;
        return (int) Math.floorMod(random >>> 33, (long) bound);
    }

    private boolean chance(int percent) {
        return below(100) < percent;
    }

    private Object call(String name, Object... arguments) {
        calls.append(name).append(List.of(arguments)).append('\n');
        Object due = model.call(name, arguments);
        Object got = program.call(name, arguments);
        if (!due.equals(got)) {
            System.out.println(calls);
            System.out.println("seed " + seed + ": the last call answered " + got + ", due is " + due);
            System.exit(1);
        }
        String sign = due instanceof Integer ? "" : " " + due;
        SEEN.merge(name + sign, 1, Integer::sum);
        return due;
    }

    private int number(String name, Object... arguments) {
        Object answer = call(name, arguments);
        return answer instanceof Integer ? (Integer) answer : answer instanceof Character ? (Character) answer : -1;
    }

    // ---- protocols

    private void buildProtocol() {
        parties = 2 + below(3);
        for (int i = 0; i < parties; i++) {
            call("addParty");
        }
        nodes = chance(15) ? 20 : 2 + below(9);
        boolean isCyclic = chance(50);
        for (int i = 0; i < nodes; i++) {
            if (i == nodes - 1 && chance(80) || chance(8)) {
                call("addEnd");
            } else {
                int from = below(parties);
                call("addMessage", from, (from + 1 + below(parties - 1)) % parties);
            }
        }
        int cellLabels = below(64);
        int branchy = below(60);
        for (int i = 0; i < nodes; i++) {
            int count = chance(branchy) ? 2 + below(2) : 1;
            for (int branch = 0; branch < count; branch++) {
                int label = below(6);
                boolean hasCell = (cellLabels >> label & 1) != 0 ^ chance(3);
                int next = isCyclic && chance(30) ? below(nodes) : Math.min(nodes - 1, i + 1 + below(2));
                call("addBranch", i, label, hasCell, next);
            }
        }
        call("setStart", chance(80) ? 0 : below(nodes));
    }

    /** A message that one party hides from a third one makes sets of nodes rather than nodes. */
    private void buildHiddenChoices() {
        parties = 3;
        for (int i = 0; i < parties; i++) {
            call("addParty");
        }
        nodes = 4 + below(17);
        int seen = 20 + below(60);
        boolean isSent = chance(30);
        for (int i = 0; i < nodes; i++) {
            if (i == 0 || chance(seen)) {
                call("addMessage", isSent ? 2 : 1, isSent ? 1 : 2);
            } else if (chance(3)) {
                call("addEnd");
            } else {
                call("addMessage", 0, 1);
            }
        }
        int labels = isSent ? 3 : 3 + below(2);
        int wrongCells = below(4);
        for (int i = 0; i < nodes; i++) {
            int count = isSent && chance(97) ? 3 : 1 + below(3);
            for (int branch = 0; branch < count; branch++) {
                int label = count == 3 && isSent ? branch : below(labels);
                call("addBranch", i, label, label == 1 ^ chance(wrongCells), below(nodes));
            }
        }
        call("setStart", below(nodes));
    }

    private void askProtocol() {
        for (int party = 0; party < parties; party++) {
            call("refusal", party);
            int states = number("states", party);
            for (int state = 0; state < Math.max(states, 2); state++) {
                call("kindOf", party, state);
                call("partnerOf", party, state);
                for (int label = -1; label < 7; label++) {
                    call("follower", party, state, label);
                }
            }
            call("kindOf", party, states);
            call("kindOf", party, -1);
        }
    }

    // ---- programs

    /** Adds an instruction, or, now and then, one that is nearly it. */
    private void add(int party, char kind, int a, int b, int c) {
        if (chance(mistakes)) {
            int wrong = below(6);
            if (kind == 's' && wrong < 5) {
                int other = wrong == 0 ? (a + 1) % parties : a;
                call("add", party, kind, other, wrong == 1 ? below(6) : b, wrong >= 2 ? below(5) - 1 : c);
            } else if (wrong < 2) {
                call("add", party, 'm', below(3), below(3), 0);
            } else if (wrong < 3) {
                call("add", party, 'n', below(4), 0, 0);
            } else if (wrong < 4) {
                call("add", party, 'e', 0, 0, 0);
            } else if (wrong < 5) {
                call("add", party, 'j', below(20), 0, 0);
            } else {
                call("add", party, KINDS[below(8)].charAt(0), below(5) - 1, below(7) - 1, below(6) - 1);
            }
        } else {
            call("add", party, kind, a, b, c);
        }
    }

    private void addRandomProgram(int party) {
        int count = chance(10) ? 21 : below(9);
        for (int i = 0; i < count; i++) {
            char kind = KINDS[below(8)].charAt(0);
            int other = (party + 1 + below(parties - 1)) % parties;
            if (kind == 's') {
                call("add", party, kind, other, below(6), below(5) - 1);
            } else if (kind == 'r') {
                call("add", party, kind, other, 0, 0);
            } else if (kind == 'd') {
                call("add", party, kind, below(2), below(count), 0);
            } else if (kind == 'm') {
                call("add", party, kind, below(4), below(4), 0);
            } else {
                call("add", party, kind, kind == 'e' ? 0 : below(4), 0, 0);
            }
            for (int more = below(8); kind == 'r' && more > 0; more--) {
                call("addCase", party, i, below(7), below(6) - 1, below(count));
            }
        }
    }

    /** A program that follows the states of its party, one block of instructions a state. */
    private void addFollowingProgram(int party) {
        int states = number("states", party);
        List<List<Integer>> chosen = new ArrayList<>();
        List<Integer> firsts = new ArrayList<>();
        int next = 0;
        for (int state = 0; state < states; state++) {
            firsts.add(next);
            char kind = (char) number("kindOf", party, state);
            List<Integer> labels = new ArrayList<>();
            next += kind == 's' ? 0 : 1;
            for (int label = 0; label < 6; label++) {
                int follower = number("follower", party, state, label);
                if (follower >= 0 && (kind == 'r' || labels.isEmpty() || labels.size() == 1 && chance(50))) {
                    labels.add(label);
                    next += kind == 's' ? follower >= 100 ? 3 : 2 : follower >= 100 ? 2 : 0;
                }
            }
            next += kind == 's' && labels.size() > 1 ? 1 : 0;
            chosen.add(labels);
        }
        for (int state = 0; state < states; state++) {
            char kind = (char) number("kindOf", party, state);
            if (kind == 's') {
                addSends(party, state, chosen.get(state), firsts);
            } else if (kind == 'r') {
                addReceive(party, state, chosen.get(state), firsts);
            } else {
                add(party, 'e', 0, 0, 0);
            }
        }
    }

    private void addSends(int party, int state, List<Integer> labels, List<Integer> firsts) {
        int partner = number("partnerOf", party, state);
        int here = firsts.get(state);
        if (labels.size() > 1) {
            int follower = number("follower", party, state, labels.get(0));
            add(party, 'd', below(2), here + 1 + (follower >= 100 ? 3 : 2), 0);
        }
        for (int label : labels) {
            int follower = number("follower", party, state, label);
            if (follower >= 100) {
                add(party, 'n', 0, 0, 0);
            }
            add(party, 's', partner, label, follower >= 100 ? 0 : -1);
            add(party, 'j', firsts.get(follower % 100), 0, 0);
        }
    }

    private void addReceive(int party, int state, List<Integer> labels, List<Integer> firsts) {
        int here = firsts.get(state);
        add(party, 'r', number("partnerOf", party, state), 0, 0);
        int behind = here + 1;
        for (int label : labels) {
            int follower = number("follower", party, state, label);
            if (chance(mistakes)) {
                continue;
            }
            int name = follower >= 100 ^ chance(mistakes) ? 1 : -1;
            call("addCase", party, here, label, name,
                    follower >= 100 ? behind : firsts.get(follower % 100));
            if (follower >= 100) {
                add(party, 'u', 1, 0, 0);
                add(party, 'j', firsts.get(follower % 100), 0, 0);
                behind += 2;
            }
        }
    }

    private void buildPrograms() {
        mistakes = chance(40) ? 0 : below(8);
        int following = chance(50) ? 100 : 80;
        for (int party = 0; party < parties; party++) {
            if (chance(following)) {
                addFollowingProgram(party);
            } else {
                addRandomProgram(party);
            }
            call("setNumber", party, below(2), below(4));
            askCheck(party);
        }
        call("meanPlaces");
        call("admittedShare");
    }

    private void askCheck(int party) {
        call("fault", party);
        call("faultAt", party);
        call("places", party);
        call("idleCases", party);
        call("isAdmitted", party);
    }

    // ---- runs

    private void run() {
        for (int party = 0; party < parties; party++) {
            if (chance(50)) {
                call("setMonitor", party, chance(80));
            }
        }
        if (call("begin", 1 + below(3)) instanceof String) {
            return;
        }
        int count = below(80);
        for (int i = 0; i < count; i++) {
            call("step", below(parties));
            if (chance(1)) {
                call("cancel", below(parties));
            }
            if (chance(8)) {
                call("search");
                call("reached");
            }
            if (chance(25)) {
                askRun();
            }
        }
        askRun();
        callWrongly();
        call("close");
        call("steps");
    }

    private void askRun() {
        call("isConsistent");
        call("isStuck");
        call("cellsInUse");
        for (int party = 0; party < parties; party++) {
            call("condition", party);
            call("at", party);
            call("number", party, 0);
            call("number", party, 1);
            call("stateOf", party);
            call("blamedAt", party);
            for (int name = 0; name < 4; name++) {
                call("cellIn", party, name);
            }
            for (int to = 0; to < parties; to++) {
                call("queued", party, to);
                for (int index = -1; index < 4; index++) {
                    call("messageAt", party, to, index);
                }
            }
        }
    }

    private int orExtreme(int value) {
        return chance(97) ? value : chance(50) ? Integer.MIN_VALUE + below(3) : Integer.MAX_VALUE - below(3);
    }

    /** Calls with numbers in and out of range, at any time. */
    private void callWrongly() {
        for (int i = 0; i < 12; i++) {
            int p = orExtreme(below(7) - 1);
            int q = orExtreme(below(7) - 1);
            int n = orExtreme(below(23) - 1);
            int l = orExtreme(below(8) - 1);
            switch (below(17)) {
                case 0: call("addMessage", p, q); break;
                case 1: call("addBranch", n, l, chance(50), below(22)); break;
                case 2: call("add", p, KINDS[below(8)].charAt(0), q, l, below(3) - 1); break;
                case 3: call("addCase", p, below(6) - 1, l, below(7) - 2, n); break;
                case 4: call("setNumber", p, below(4) - 1, below(13) - 2); break;
                case 5: call("setMonitor", p, chance(50)); break;
                case 6: call("cellIn", p, q); break;
                case 7: call("number", p, below(4) - 1); break;
                case 8: call("queued", p, q); break;
                case 9: call("messageAt", p, q, below(3)); break;
                case 10: call("follower", p, n, l); break;
                case 11: call("step", p); break;
                case 12: call("begin", below(6) - 1); break;
                case 13: call("kindOf", p, n); break;
                case 14: call("partnerOf", p, n); break;
                case 15: call("stateOf", p); break;
                default: call("refusal", p); break;
            }
        }
    }

    private void askBare() {
        for (String name : new String[] {"close", "cellsInUse", "isStuck", "search", "reached", "steps",
            "meanPlaces", "admittedShare", "isConsistent"}) {
            call(name);
        }
        callWrongly();
    }

    private void testAll() {
        askBare();
        if (seed % 6 == 0) {
            buildHiddenChoices();
        } else {
            buildProtocol();
        }
        askBare();
        askProtocol();
        buildPrograms();
        askBare();
        call("close");
        for (int i = 0; i < 3; i++) {
            run();
            callWrongly();
        }
        askProtocol();
        for (int party = 0; party < parties; party++) {
            askCheck(party);
        }
    }

    public static void main(String[] args) {
        int seeds = args.length > 0 ? Integer.parseInt(args[0]) : 1000;
        for (int seed = 1; seed <= seeds; seed++) {
            new ModelTest(seed).testAll();
        }
        if (args.length > 1) {
            SEEN.forEach((answer, count) -> System.out.println(answer + ": " + count));
        }
        System.out.println("the program answers as PlainModel does");
    }
}
