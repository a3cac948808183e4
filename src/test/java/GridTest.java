import java.util.ArrayList;
import java.util.List;

/** In languages of many kinds each call with all numbers at the ends of their ranges: PlainModel answers the same. */
public final class GridTest {
    private static final int MIN = Integer.MIN_VALUE;
    private static final int MAX = Integer.MAX_VALUE;
    private static final Integer[] PARTIES = {MIN, -1, 0, 1, 2, 3, 4, MAX};
    private static final Integer[] FEW = {MIN, -1, 0, 1, 2, 3, 4, 9, 10, MAX};
    private static final Integer[] NODES = {MIN, -1, 0, 1, 2, 3, 19, 20, MAX};
    private static final Integer[] LABELS = {MIN, -1, 0, 1, 4, 5, 6, 32, MAX};
    private static final Integer[] NAMES = {MIN, -2, -1, 0, 3, 4, MAX};
    private static final Integer[] STATES = {MIN, -1, 0, 1, 2, 3, 39, 40, MAX};
    private static final Boolean[] BOTH = {false, true};
    private static final Character[] KINDS = {'n', 'u', 'm', 'j', 'd', 's', 'r', 'e', 'x', 0, Character.MAX_VALUE};

    /** Languages, told as calls with blanks between their arguments. */
    private static final String[] WORLDS = {
        "",
        "addParty",
        "addParty, addParty, addEnd",
        "addParty, addParty, addParty, addParty, addEnd, setStart 0",
        "addParty, addParty, addParty, addParty, addEnd, setStart 0, begin 1, step 3, cancel 2",
        pingPong(""),
        pingPong(", addMessage 0 1"),
        pingPong(", setMonitor 0 true, setMonitor 1 true, setNumber 0 0 9, begin 1, step 0, step 0"),
        pingPong(", setMonitor 1 true, setNumber 0 0 9, begin 3, step 0, step 0, step 0, step 1, step 1"),
        pingPong(", begin 2, step 0, step 0, step 0, step 1, step 1"),
        pingPong(", begin 1, step 0, cancel 0, step 1, close"),
        refused(""),
        refused(", begin 2, step 2, step 0"),
        refused(", addMessage 1 0"),
        refused(", setStart 1, setMonitor 2 true, setStart 0"),
        full(""),
        full(", begin 1, step 0, step 1, step 1"),
    };

    private static String pingPong(String more) {
        return "addParty, addParty, addMessage 0 1, addMessage 1 0, addEnd, addBranch 0 0 true 1,"
                + " addBranch 0 2 false 2, addBranch 1 1 false 0, setStart 0,"
                + " add 0 'd 0 5 0, add 0 'n 0 0 0, add 0 's 1 0 0, add 0 'r 1 0 0,"
                + " addCase 0 3 1 -1 0, add 0 'e 0 0 0, add 0 's 1 2 -1, add 0 'e 0 0 0, add 1 'r 0 0 0,"
                + " addCase 1 0 0 2 1, addCase 1 0 2 -1 4, add 1 'u 2 0 0, add 1 's 0 1 -1, add 1 'j 0 0 0,"
                + " add 1 'e 0 0 0" + more;
    }

    private static String refused(String more) {
        return "addParty, addParty, addParty, addMessage 0 1, addMessage 0 2, addEnd, addBranch 0 0 false 2,"
                + " addBranch 0 5 true 1, addBranch 1 3 false 2, setStart 0, add 0 's 1 0 -1, add 0 'e 0 0 0,"
                + " add 2 'e 0 0 0, add 1 'r 0 0 0, addCase 1 0 0 -1 1" + more;
    }

    /** 4 parties, 20 nodes, one with 3 branches, and a program of 20 instructions, one with 6 cases. */
    private static String full(String more) {
        StringBuilder calls = new StringBuilder("addParty, addParty, addParty, addParty");
        for (int node = 0; node < 19; node++) {
            calls.append(node % 2 == 0 ? ", addMessage 0 1" : ", addEnd");
        }
        calls.append(", addMessage 1 0, setStart 19");
        for (int node = 0; node < 20; node += node == 18 ? 1 : 2) {
            calls.append(", addBranch ").append(node).append(" 0 false ").append(19 - node);
        }
        calls.append(", addBranch 0 5 true 19, addBranch 0 1 false 0, addBranch 19 5 true 1");
        for (int i = 0; i < 20; i++) {
            calls.append(", add 0 'r 1 0 0");
        }
        for (int label = 0; label < 6; label++) {
            calls.append(", addCase 0 0 ").append(label).append(" -1 ").append(19 - label);
        }
        return calls.append(", add 1 'n 0 0 0, add 1 's 0 5 0").append(more).toString();
    }

    private final String world;
    private Caller program;
    private Caller model;
    private Object programOwner;
    private Object modelOwner;
    private int calls;
    private int compared;

    private GridTest(String world) {
        this.world = world;
    }

    public static void main(String[] args) {
        int compared = 0;
        for (String world : WORLDS) {
            GridTest test = new GridTest(world);
            test.testAll();
            compared += test.compared;
        }
        System.out.println(compared + " answers are those of PlainModel");
    }

    private void makeAnew() {
        programOwner = new QuantityQuarry();
        modelOwner = new PlainModel();
        program = new Caller(programOwner);
        model = new Caller(modelOwner);
        calls = 0;
        for (String call : world.isEmpty() ? new String[0] : world.split(", ")) {
            String[] parts = call.split(" ");
            Object[] arguments = new Object[parts.length - 1];
            for (int i = 0; i < arguments.length; i++) {
                arguments[i] = argument(parts[i + 1]);
            }
            if (call(parts[0], arguments)) {
                fail(call + " was refused");
            }
        }
    }

    private static Object argument(String told) {
        if (told.startsWith("'")) {
            return told.charAt(1);
        }
        return told.endsWith("e") ? (Object) Boolean.valueOf(told) : (Object) Integer.valueOf(told);
    }

    /** Whether the call was refused. */
    private boolean call(String name, Object... arguments) {
        calls++;
        compared++;
        Object due = model.call(name, arguments);
        Object got = program.call(name, arguments);
        if (!due.equals(got)) {
            fail(name + " " + List.of(arguments) + " answered " + got + ", due is " + due);
        }
        return due instanceof String;
    }

    private void fail(String what) {
        System.out.println(world);
        System.out.println(what);
        System.exit(1);
    }

    /** Refused calls are made one behind another, for they change nothing; any other one is the last of its object. */
    private void grid(String name, Object[]... ranges) {
        List<Object> chosen = new ArrayList<>();
        makeAnew();
        chooseAll(name, chosen, ranges);
        showsTheSame(name);
    }

    private void chooseAll(String name, List<Object> chosen, Object[]... ranges) {
        if (chosen.size() == ranges.length) {
            if (!call(name, chosen.toArray()) || calls > 180) {
                showsTheSame(name + " " + chosen);
                makeAnew();
            }
            return;
        }
        for (Object choice : ranges[chosen.size()]) {
            chosen.add(choice);
            chooseAll(name, chosen, ranges);
            chosen.remove(chosen.size() - 1);
        }
    }

    private void showsTheSame(String what) {
        if (!Told.of(programOwner).equals(Told.of(modelOwner))) {
            fail("what is shown behind " + what);
        }
    }

    private void testAll() {
        for (String name : new String[] {"addParty", "addEnd", "close", "cellsInUse", "isStuck", "search", "reached",
            "steps", "meanPlaces", "admittedShare", "isConsistent"}) {
            grid(name);
        }
        for (String name : new String[] {"refusal", "states", "fault", "faultAt", "places", "idleCases", "isAdmitted",
            "step", "cancel", "condition", "at", "stateOf", "blamedAt"}) {
            grid(name, (Object[]) PARTIES);
        }
        grid("addMessage", PARTIES, PARTIES);
        grid("addBranch", NODES, LABELS, BOTH, NODES);
        grid("setStart", (Object[]) NODES);
        grid("kindOf", PARTIES, STATES);
        grid("partnerOf", PARTIES, STATES);
        grid("follower", PARTIES, STATES, LABELS);
        grid("add", PARTIES, KINDS, NAMES, LABELS, NAMES);
        grid("addCase", PARTIES, NODES, LABELS, NAMES, NODES);
        grid("setNumber", PARTIES, FEW, FEW);
        grid("setMonitor", PARTIES, BOTH);
        grid("begin", (Object[]) FEW);
        grid("cellIn", PARTIES, FEW);
        grid("number", PARTIES, FEW);
        grid("queued", PARTIES, PARTIES);
        grid("messageAt", PARTIES, PARTIES, FEW);
    }
}
