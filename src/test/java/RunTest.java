/** Promises 20 to 34: monitors, runs, and what is told of them. */
public final class RunTest {
    public static void main(String[] args) {
        setMonitor();
        begin();
        close();
        exceptionsInAndOutOfARun();
        pingPongRuns();
        cellsAreTheLowestFree();
        movesAndJumps();
        countDown();
        failures();
        failuresToReceive();
        failsBeforeItIsBlocked();
        capacities();
        lostMessages();
        cancelledForWantOfAMessage();
        stoppingFreesCells();
        cancel();
        monitorsBlame();
        monitorsLookLast();
        stuck();
        refusedWithMonitor();
        fullQueuesOfAllParties();
        whatThrowsChangesNothing();
        Expect.finish();
    }

    private static void setMonitor() {
        QuantityQuarry x = Samples.parties(3);
        Expect.thrown(Expect.INDEX, () -> x.setMonitor(-1, true));
        Expect.thrown(Expect.INDEX, () -> x.setMonitor(3, true));
        Expect.thrown(Expect.STATE, () -> x.setMonitor(0, true));
        Samples.nodes(x, "01", "02", "e");
        Samples.branches(x, "0 0 2", "1 0 2");
        x.setStart(0);
        Expect.same(0, x.setMonitor(0, false));
        Expect.same(1, x.setMonitor(0, true));
        Expect.same(1, x.setMonitor(0, true));
        Expect.same(2, x.setMonitor(2, true));
        Expect.same(1, x.setMonitor(0, false));
        x.addBranch(0, 1, false, 1);
        Expect.thrown(Expect.UNSUPPORTED, () -> x.setMonitor(2, true));
        Expect.thrown(Expect.UNSUPPORTED, () -> x.setMonitor(2, false));
        Expect.thrown(Expect.STATE, () -> x.begin(1));
        Expect.thrown(Expect.ARGUMENT, () -> x.begin(0));
        Expect.same(2, x.setMonitor(1, true));
        x.setStart(1);
        Expect.same(2, x.setMonitor(1, true));
        Expect.same(1, x.setMonitor(2, false));
        x.setStart(0);
        Expect.same(3, x.begin(1));
        Expect.same(0, x.stateOf(1));
        Expect.thrown(Expect.ELEMENT, () -> x.stateOf(2));
        Expect.thrown(Expect.STATE, () -> x.setMonitor(0, true));
        Expect.thrown(Expect.STATE, () -> x.setMonitor(2, true));
        Expect.thrown(Expect.INDEX, () -> x.setMonitor(3, true));
        x.close();
        Expect.same(0, x.setMonitor(1, false));
    }

    private static void begin() {
        QuantityQuarry x = Samples.parties(2);
        Expect.thrown(Expect.ARGUMENT, () -> x.begin(0));
        Expect.thrown(Expect.ARGUMENT, () -> x.begin(4));
        Expect.thrown(Expect.ARGUMENT, () -> x.begin(Integer.MIN_VALUE));
        Expect.thrown(Expect.STATE, () -> x.begin(1));
        x.addEnd();
        Expect.thrown(Expect.STATE, () -> x.begin(1));
        x.setStart(0);
        Expect.same(2, x.begin(3));
        Expect.thrown(Expect.STATE, () -> x.begin(1));
        Expect.thrown(Expect.ARGUMENT, () -> x.begin(4));
        QuantityQuarry none = Samples.ended(0);
        Expect.same(0, none.begin(2));
        Expect.same(false, none.isStuck());
        Expect.same(1, none.reached());
        Expect.same(0, none.search());
        Expect.same(true, none.isConsistent());
        Expect.same(0, none.close());
    }

    private static void close() {
        QuantityQuarry x = Samples.pingPong();
        Expect.thrown(Expect.STATE, x::close);
        x.begin(1);
        Expect.same(0, x.close());
        Expect.thrown(Expect.STATE, x::close);
        x.setNumber(0, 0, 1);
        x.begin(1);
        Expect.same("bdddb", Samples.steps(x, "10000"));
        Expect.same(3, x.close());
        x.begin(1);
        Expect.same(0, x.at(0));
        Expect.same('r', x.condition(0));
        Expect.same(1, x.number(0, 0));
        Expect.same(0, x.cellsInUse());
        Expect.same(0, x.queued(0, 1));
        Expect.same(0, x.close());
    }

    private static void exceptionsInAndOutOfARun() {
        QuantityQuarry x = Samples.pingPong();
        Expect.thrown(Expect.STATE, () -> x.step(0));
        Expect.thrown(Expect.STATE, () -> x.cancel(0));
        Expect.thrown(Expect.STATE, () -> x.condition(0));
        Expect.thrown(Expect.STATE, () -> x.at(0));
        Expect.thrown(Expect.STATE, () -> x.cellIn(0, 0));
        Expect.thrown(Expect.STATE, () -> x.number(0, 0));
        Expect.thrown(Expect.STATE, () -> x.queued(0, 1));
        Expect.thrown(Expect.STATE, () -> x.messageAt(0, 1, 0));
        Expect.thrown(Expect.STATE, () -> x.stateOf(0));
        Expect.thrown(Expect.STATE, () -> x.blamedAt(0));
        Expect.thrown(Expect.STATE, x::cellsInUse);
        Expect.thrown(Expect.STATE, x::isStuck);
        wrongParties(x);
        x.begin(1);
        wrongParties(x);
        Expect.same(0, x.queued(0, 0));
        Expect.thrown(Expect.ELEMENT, () -> x.messageAt(1, 1, 0));
        Expect.thrown(Expect.ELEMENT, () -> x.messageAt(0, 1, -1));
        Expect.thrown(Expect.ELEMENT, () -> x.messageAt(0, 1, 0));
        Expect.thrown(Expect.ELEMENT, () -> x.cellIn(0, 0));
        Expect.thrown(Expect.ELEMENT, () -> x.stateOf(0));
        Expect.thrown(Expect.ELEMENT, () -> x.blamedAt(0));
    }

    private static void wrongParties(QuantityQuarry x) {
        for (int party : new int[] {-1, 2, 4, Integer.MAX_VALUE}) {
            Expect.thrown(Expect.INDEX, () -> x.step(party));
            Expect.thrown(Expect.INDEX, () -> x.cancel(party));
            Expect.thrown(Expect.INDEX, () -> x.condition(party));
            Expect.thrown(Expect.INDEX, () -> x.at(party));
            Expect.thrown(Expect.INDEX, () -> x.cellIn(party, 0));
            Expect.thrown(Expect.INDEX, () -> x.number(party, 0));
            Expect.thrown(Expect.INDEX, () -> x.queued(party, 0));
            Expect.thrown(Expect.INDEX, () -> x.queued(0, party));
            Expect.thrown(Expect.INDEX, () -> x.messageAt(party, 0, 0));
            Expect.thrown(Expect.INDEX, () -> x.messageAt(0, party, 0));
            Expect.thrown(Expect.INDEX, () -> x.stateOf(party));
            Expect.thrown(Expect.INDEX, () -> x.blamedAt(party));
        }
        Expect.thrown(Expect.INDEX, () -> x.cellIn(0, -1));
        Expect.thrown(Expect.INDEX, () -> x.cellIn(0, 4));
        Expect.thrown(Expect.INDEX, () -> x.number(0, -1));
        Expect.thrown(Expect.INDEX, () -> x.number(0, 2));
    }

    private static void pingPongRuns() {
        QuantityQuarry x = Samples.pingPong();
        x.setNumber(0, 0, 1);
        x.setMonitor(0, true);
        x.setMonitor(1, true);
        x.begin(1);
        Expect.same("bdd", Samples.steps(x, "100"));
        Expect.same(0, x.cellIn(0, 0));
        Expect.same(2, x.at(0));
        Expect.same("d", Samples.steps(x, "0"));
        Expect.thrown(Expect.ELEMENT, () -> x.cellIn(0, 0));
        Expect.same(1, x.queued(0, 1));
        Expect.same(0, x.queued(1, 0));
        Expect.same(1, x.messageAt(0, 1, 0));
        Expect.same(1, x.cellsInUse());
        Expect.same(1, x.stateOf(0));
        Expect.same(0, x.stateOf(1));
        Expect.same("bd", Samples.steps(x, "01"));
        Expect.same(0, x.cellIn(1, 2));
        Expect.same(1, x.at(1));
        Expect.same(1, x.stateOf(1));
        Expect.same(0, x.queued(0, 1));
        Expect.same("ddd", Samples.steps(x, "111"));
        Expect.same(0, x.stateOf(1));
        Expect.same(100, x.messageAt(1, 0, 0));
        Expect.same("bddd", Samples.steps(x, "1000"));
        Expect.same(6, x.at(0));
        Expect.same(2, x.stateOf(0));
        Expect.same(200, x.messageAt(0, 1, 0));
        Expect.same("ede", Samples.steps(x, "011"));
        Expect.same('e', x.condition(0));
        Expect.same('e', x.condition(1));
        Expect.same(2, x.stateOf(1));
        Expect.same(4, x.at(1));
        Expect.same(0, x.cellsInUse());
        Expect.same(13, x.close());
    }

    private static void cellsAreTheLowestFree() {
        QuantityQuarry x = Samples.ended(2);
        Samples.program(x, 0, "n 0", "n 3", "u 0", "n 1", "n 2", "e");
        Samples.program(x, 1, "n 0", "u 0", "n 2", "e");
        x.begin(1);
        Expect.same("ddd", Samples.steps(x, "001"));
        Expect.same(0, x.cellIn(0, 0));
        Expect.same(1, x.cellIn(0, 3));
        Expect.same(2, x.cellIn(1, 0));
        Expect.same(3, x.cellsInUse());
        Expect.same("d", Samples.steps(x, "0"));
        Expect.thrown(Expect.ELEMENT, () -> x.cellIn(0, 0));
        Expect.same(2, x.cellsInUse());
        Expect.same("ddd", Samples.steps(x, "110"));
        Expect.same(0, x.cellIn(1, 2));
        Expect.same(2, x.cellIn(0, 1));
        Expect.same("de", Samples.steps(x, "01"));
        Expect.same(3, x.cellIn(0, 2));
        Expect.same(3, x.cellsInUse());
        Expect.thrown(Expect.ELEMENT, () -> x.cellIn(1, 2));
        Expect.same("e", Samples.steps(x, "0"));
        Expect.same(0, x.cellsInUse());
    }

    private static void movesAndJumps() {
        QuantityQuarry x = Samples.ended(1);
        Samples.program(x, 0, "n 0", "j 3", "e", "m 0 3", "j 19");
        x.begin(1);
        Expect.same("dd", Samples.steps(x, "00"));
        Expect.same(3, x.at(0));
        Expect.same("d", Samples.steps(x, "0"));
        Expect.thrown(Expect.ELEMENT, () -> x.cellIn(0, 0));
        Expect.same(0, x.cellIn(0, 3));
        Expect.same("d", Samples.steps(x, "0"));
        Expect.same(19, x.at(0));
        Expect.same('r', x.condition(0));
        Expect.same("x", Samples.steps(x, "0"));
        Expect.same(19, x.at(0));
        Expect.same('x', x.condition(0));
        Expect.same(0, x.cellsInUse());
    }

    private static void countDown() {
        QuantityQuarry x = Samples.ended(1);
        Samples.program(x, 0, "d 1 3", "j 0", "e", "d 0 2");
        x.setNumber(0, 1, 2);
        x.setNumber(0, 0, 1);
        x.begin(1);
        Expect.same("dddd", Samples.steps(x, "0000"));
        Expect.same(0, x.number(0, 1));
        Expect.same(1, x.number(0, 0));
        Expect.same(0, x.at(0));
        Expect.same("d", Samples.steps(x, "0"));
        Expect.same(0, x.number(0, 1));
        Expect.same(3, x.at(0));
        Expect.same("d", Samples.steps(x, "0"));
        Expect.same(0, x.number(0, 0));
        Expect.same(4, x.at(0));
        Expect.same("x", Samples.steps(x, "0"));
        Expect.same(4, x.at(0));
        Expect.same(7, x.close());
    }

    /** The signs of a program that party 0 of two runs alone, as long as it runs. */
    private static String signs(String... program) {
        QuantityQuarry x = Samples.ended(2);
        Samples.program(x, 0, program);
        x.begin(1);
        StringBuilder signs = new StringBuilder();
        for (int i = 0; i < 9 && x.condition(0) == 'r'; i++) {
            signs.append(x.step(0));
        }
        Expect.same(0, x.cellsInUse());
        return signs.toString();
    }

    private static void failures() {
        Expect.same("x", signs());
        Expect.same("dx", signs("n 0"));
        Expect.same("dx", signs("n 0", "n 0"));
        Expect.same("x", signs("u 0"));
        Expect.same("ddx", signs("n 0", "u 0", "u 0"));
        Expect.same("x", signs("m 0 1"));
        Expect.same("dx", signs("n 1", "m 0 1"));
        Expect.same("ddx", signs("n 0", "n 1", "m 0 1"));
        Expect.same("dx", signs("n 0", "m 0 0"));
        Expect.same("x", signs("m 3 3"));
        Expect.same("x", signs("s 1 0 0"));
        Expect.same("dx", signs("n 0", "s 1 0 1"));
        Expect.same("e", signs("e"));
        Expect.same("dde", signs("n 0", "n 1", "e"));
    }

    /** What comes of a message from party 1, without or with a cell, when party 0 would take it. */
    private static char taken(boolean hasCell, String... program) {
        QuantityQuarry x = Samples.ended(2);
        Samples.program(x, 0, program);
        Samples.program(x, 1, "n 0", hasCell ? "s 0 3 0" : "s 0 3 -1", "j 2");
        x.begin(1);
        Samples.steps(x, "11");
        while (x.at(0) != 2) {
            x.step(0);
        }
        int before = x.cellsInUse();
        char sign = x.step(0);
        if (sign == 'x') {
            Expect.same(2, x.at(0));
            Expect.same(0, x.queued(1, 0));
            Expect.same(hasCell ? 0 : 1, x.cellsInUse());
        } else {
            Expect.same(before, x.cellsInUse());
            Expect.same(5, x.at(0));
            Expect.same(0, x.queued(1, 0));
        }
        return sign;
    }

    private static void failuresToReceive() {
        Expect.same('d', taken(true, "j 1", "j 2", "r 1", "? 3 1 5"));
        Expect.same('d', taken(false, "j 1", "j 2", "r 1", "? 3 -1 5"));
        Expect.same('x', taken(true, "j 1", "j 2", "r 1"));
        Expect.same('x', taken(false, "j 1", "j 2", "r 1"));
        Expect.same('x', taken(true, "j 1", "j 2", "r 1", "? 2 1 5", "? 4 1 5"));
        Expect.same('x', taken(true, "j 1", "j 2", "r 1", "? 3 -1 5"));
        Expect.same('x', taken(false, "j 1", "j 2", "r 1", "? 3 0 5"));
        Expect.same('x', taken(true, "j 1", "n 1", "r 1", "? 3 1 5"));
        Expect.same('d', taken(true, "j 1", "n 1", "r 1", "? 3 2 5"));
    }

    private static void failsBeforeItIsBlocked() {
        QuantityQuarry x = Samples.ended(2);
        Samples.program(x, 0, "s 1 0 -1", "s 1 0 2");
        Samples.program(x, 1, "j 0");
        x.begin(1);
        Expect.same("dx", Samples.steps(x, "00"));
        Expect.same(1, x.queued(0, 1));
    }

    private static void capacities() {
        for (int capacity = 1; capacity <= 3; capacity++) {
            QuantityQuarry x = Samples.ended(3);
            Samples.program(x, 0, "n 0", "s 2 5 0", "s 2 4 -1", "n 1", "s 2 0 1", "s 2 1 -1", "s 2 2 -1");
            Samples.program(x, 1, "n 0", "s 2 3 0", "j 2");
            Samples.program(x, 2, "r 0", "? 5 0 1", "r 0", "? 4 -1 2", "j 2");
            x.begin(capacity);
            Expect.same("dd", Samples.steps(x, "11"));
            Expect.same("dd", Samples.steps(x, "00"));
            Expect.same(502, x.messageAt(0, 2, 0));
            Expect.same(capacity > 1 ? "d" : "b", Samples.steps(x, "0"));
            Expect.same(capacity > 1 ? "d" : "b", Samples.steps(x, "0"));
            Expect.same(capacity > 2 ? "d" : "b", Samples.steps(x, "0"));
            Expect.same("bb", Samples.steps(x, "00"));
            Expect.same(capacity, x.queued(0, 2));
            Expect.same(1, x.queued(1, 2));
            Expect.same(301, x.messageAt(1, 2, 0));
            Expect.same(502, x.messageAt(0, 2, 0));
            if (capacity > 1) {
                Expect.same(400, x.messageAt(0, 2, 1));
            }
            if (capacity > 2) {
                Expect.same(3, x.messageAt(0, 2, 2));
            }
            int index = capacity;
            Expect.thrown(Expect.ELEMENT, () -> x.messageAt(0, 2, index));
            Expect.same("d", Samples.steps(x, "2"));
            Expect.same(1, x.cellIn(2, 0));
            Expect.same(capacity - 1, x.queued(0, 2));
            Expect.same("d", Samples.steps(x, "0"));
        }
    }

    private static void lostMessages() {
        QuantityQuarry x = Samples.ended(2);
        Samples.program(x, 0, "n 0", "n 1", "s 1 0 0", "s 1 0 -1", "s 1 1 1", "e");
        Samples.program(x, 1, "e");
        x.begin(1);
        Expect.same("edd", Samples.steps(x, "100"));
        Expect.same(2, x.cellsInUse());
        Expect.same("d", Samples.steps(x, "0"));
        Expect.same(1, x.cellsInUse());
        Expect.same(0, x.queued(0, 1));
        Expect.thrown(Expect.ELEMENT, () -> x.cellIn(0, 0));
        Expect.same("dd", Samples.steps(x, "00"));
        Expect.same(0, x.cellsInUse());
        Expect.same("e", Samples.steps(x, "0"));
    }

    private static void cancelledForWantOfAMessage() {
        for (String way : new String[] {"e", "x", "c"}) {
            QuantityQuarry x = Samples.ended(3);
            Samples.program(x, 0, "n 2", "r 1", "? 0 -1 1");
            Samples.program(x, 1, "s 0 0 -1", way.equals("e") ? "e" : "u 0");
            Samples.program(x, 2, "r 0");
            x.begin(2);
            Expect.same("db", Samples.steps(x, "00"));
            x.step(1);
            if (way.equals("c")) {
                x.cancel(1);
            } else {
                x.step(1);
            }
            Expect.same(way.charAt(0), x.condition(1));
            Expect.same(1, x.queued(1, 0));
            Expect.same("d", Samples.steps(x, "0"));
            Expect.same(1, x.cellsInUse());
            Expect.same("bc", Samples.steps(x, "20"));
            Expect.same('c', x.condition(0));
            Expect.same(1, x.at(0));
            Expect.same(0, x.cellsInUse());
            Expect.thrown(Expect.ELEMENT, () -> x.blamedAt(0));
            Expect.thrown(Expect.UNSUPPORTED, () -> x.step(0));
            Expect.same("c", Samples.steps(x, "2"));
        }
    }

    private static void stoppingFreesCells() {
        QuantityQuarry x = Samples.ended(3);
        Samples.program(x, 0, "n 0", "s 1 0 0", "n 1", "s 1 0 1", "n 3", "e");
        Samples.program(x, 1, "n 0", "n 1", "n 2", "s 2 0 0", "e");
        Samples.program(x, 2, "n 0", "s 1 0 0", "r 1", "? 0 0 3", "j 3");
        x.begin(3);
        Samples.steps(x, "00001111" + "22");
        Expect.same(2, x.queued(0, 1));
        Expect.same(1, x.queued(2, 1));
        Expect.same(1, x.queued(1, 2));
        Expect.same(6, x.cellsInUse());
        Expect.same("e", Samples.steps(x, "1"));
        Expect.same(1, x.cellsInUse());
        Expect.same(0, x.queued(0, 1));
        Expect.same(0, x.queued(2, 1));
        Expect.same(1, x.queued(1, 2));
        Expect.same("d", Samples.steps(x, "2"));
        Expect.same(2, x.cellIn(2, 0));
        Expect.same("de", Samples.steps(x, "00"));
        Expect.same(1, x.cellsInUse());
    }

    private static void cancel() {
        QuantityQuarry x = Samples.ended(3);
        Samples.program(x, 0, "n 0", "s 1 0 0", "n 1", "n 2", "s 1 3 -1", "j 5");
        Samples.program(x, 1, "n 3", "j 1");
        Samples.program(x, 2, "j 0");
        x.begin(2);
        Samples.steps(x, "000001");
        Expect.same(4, x.cellsInUse());
        Expect.same(0, x.cancel(2));
        Expect.same(2, x.cancel(1));
        Expect.same(2, x.cellsInUse());
        Expect.same(0, x.queued(0, 1));
        Expect.same('c', x.condition(1));
        Expect.same(1, x.at(1));
        Expect.thrown(Expect.UNSUPPORTED, () -> x.cancel(1));
        Expect.thrown(Expect.UNSUPPORTED, () -> x.step(1));
        Expect.same(2, x.cancel(0));
        Expect.same(0, x.cellsInUse());
        Expect.thrown(Expect.ELEMENT, () -> x.blamedAt(0));
        Expect.same(6, x.close());
        Expect.same(6L, x.steps());
        x.begin(1);
        Expect.same('r', x.condition(1));
    }

    /** Party 0 must send party 1 label 1 with a cell or label 2; it has a monitor, and party 1 and 2 go on for ever. */
    private static QuantityQuarry monitored(String... program) {
        QuantityQuarry x = Samples.parties(3);
        Samples.nodes(x, "01", "e");
        Samples.branches(x, "0 1+ 1", "0 2 1");
        x.setStart(0);
        Samples.program(x, 0, program);
        Samples.program(x, 1, "j 0");
        Samples.program(x, 2, "j 0");
        x.setMonitor(0, true);
        x.begin(1);
        return x;
    }

    private static void monitorsBlame() {
        String[][] wrongs = {{"n 0", "s 2 1 0"}, {"n 0", "s 1 0 0"}, {"n 0", "s 1 2 0"}, {"n 0", "s 1 1 -1"},
            {"n 0", "e"}};
        for (String[] program : wrongs) {
            QuantityQuarry x = monitored(program);
            Expect.same("ddv", Samples.steps(x, "100"));
            Expect.same('c', x.condition(0));
            Expect.same(2, x.blamedAt(0));
            Expect.same(1, x.at(0));
            Expect.same(0, x.stateOf(0));
            Expect.same(0, x.cellsInUse());
            Expect.same(0, x.queued(0, 1) + x.queued(0, 2));
            Expect.thrown(Expect.ELEMENT, () -> x.blamedAt(1));
            Expect.same(3, x.close());
            x.begin(1);
            Expect.thrown(Expect.ELEMENT, () -> x.blamedAt(0));
        }
        QuantityQuarry right = monitored("n 0", "s 1 1 0", "s 1 2 -1");
        Expect.same("dd", Samples.steps(right, "00"));
        Expect.same(1, right.stateOf(0));
        right.cancel(1);
        Expect.same("v", Samples.steps(right, "0"));
        Expect.same(1, right.stateOf(0));
        Expect.same(2, right.blamedAt(0));
        QuantityQuarry ends = monitored("s 1 2 -1", "e");
        Expect.same("de", Samples.steps(ends, "00"));
        Expect.same(1, ends.stateOf(0));
        Expect.same(1, ends.queued(0, 1));
        QuantityQuarry lost = monitored("n 0", "s 1 1 0", "e");
        lost.cancel(1);
        Expect.same("dde", Samples.steps(lost, "000"));
        Expect.same(1, lost.stateOf(0));
        receiversAreBlamed();
    }

    /** What comes of a message that party 0 sends party 1, of which label 1 carries a cell and label 2 none. */
    private static void receiversAreBlamed() {
        Expect.same('d', received("s 1 1 0", 1));
        Expect.same('d', received("s 1 2 -1", 2));
        Expect.same('v', received("s 1 1 -1", 2));
        Expect.same('v', received("s 1 2 0", 1));
        Expect.same('v', received("s 1 3 0", 1));
        Expect.same('v', received("s 1 0 -1", 2));
    }

    private static char received(String send, int kind) {
        QuantityQuarry x = Samples.parties(2);
        Samples.nodes(x, "01", "01", "e");
        Samples.branches(x, "0 1+ 1", "0 2 1", "1 5 2");
        x.setStart(0);
        Samples.program(x, 0, "n 0", send, "j 2");
        String name = kind == 1 ? "0" : "-1";
        Samples.program(x, 1, "r 0", "? 0 " + name + " 3", "? 1 " + name + " 3", "? 2 " + name + " 3",
                "? 3 " + name + " 3");
        x.setMonitor(1, true);
        x.begin(2);
        Expect.same("dd", Samples.steps(x, "00"));
        int before = x.cellsInUse();
        char sign = x.step(1);
        Expect.same(0, x.queued(0, 1));
        Expect.same(sign == 'd' ? 1 : 0, x.stateOf(1));
        Expect.same(sign == 'd' ? 3 : 0, x.at(1));
        Expect.same(sign == 'd' || kind == 2 ? before : before - 1, x.cellsInUse());
        return sign;
    }

    private static void monitorsLookLast() {
        QuantityQuarry fails = monitored("s 2 5 3");
        Expect.same("x", Samples.steps(fails, "0"));
        Expect.thrown(Expect.ELEMENT, () -> fails.blamedAt(0));
        QuantityQuarry blocked = monitored("s 1 2 -1", "s 1 2 -1");
        Expect.same("db", Samples.steps(blocked, "00"));
        blocked.cancel(1);
        Expect.same("v", Samples.steps(blocked, "0"));
        Expect.same(1, blocked.blamedAt(0));
        QuantityQuarry waits = monitored("r 2");
        Expect.same("b", Samples.steps(waits, "0"));
        waits.cancel(2);
        Expect.same("c", Samples.steps(waits, "0"));
        Expect.thrown(Expect.ELEMENT, () -> waits.blamedAt(0));
        QuantityQuarry none = monitored("j 1", "e");
        none.close();
        none.setMonitor(0, false);
        none.begin(1);
        Expect.same("de", Samples.steps(none, "00"));
    }

    private static void stuck() {
        QuantityQuarry x = Samples.ended(3);
        Samples.program(x, 0, "s 1 0 -1", "s 1 0 -1", "e");
        Samples.program(x, 1, "r 2", "e");
        Samples.program(x, 2, "j 1", "e");
        x.begin(1);
        Expect.same(false, x.isStuck());
        Expect.same("db", Samples.steps(x, "00"));
        Expect.same(false, x.isStuck());
        Expect.same("b", Samples.steps(x, "1"));
        Expect.same(false, x.isStuck());
        Expect.same("de", Samples.steps(x, "22"));
        Expect.same(false, x.isStuck());
        Expect.same("cde", Samples.steps(x, "100"));
        Expect.same(false, x.isStuck());
        x.close();
        Samples.program(x, 2, "r 0");
        x.begin(1);
        Samples.steps(x, "022");
        Expect.same(false, x.isStuck());
        x.close();
        QuantityQuarry wait = Samples.ended(3);
        Samples.program(wait, 0, "s 1 0 -1", "s 1 0 -1");
        Samples.program(wait, 1, "r 2");
        Samples.program(wait, 2, "r 1");
        wait.begin(1);
        Expect.same(false, wait.isStuck());
        wait.step(0);
        Expect.same(true, wait.isStuck());
        Expect.same(true, wait.isConsistent());
        wait.cancel(2);
        Expect.same(false, wait.isStuck());
        Expect.same("c", Samples.steps(wait, "1"));
        Expect.same(false, wait.isStuck());
        Expect.same("dx", Samples.steps(wait, "00"));
        Expect.same(false, wait.isStuck());
    }

    /** A party that was given a monitor before it came to be refused. */
    private static void refusedWithMonitor() {
        for (int party = 0; party < 3; party++) {
            QuantityQuarry x = Samples.parties(3);
            int second = (party + 1) % 3;
            int third = (party + 2) % 3;
            x.addMessage(second, third);
            x.addMessage(third, party);
            x.addEnd();
            Samples.branches(x, "0 0 1", "1 0 2");
            x.setStart(0);
            x.setMonitor(party, true);
            x.addBranch(0, 1, false, 2);
            Expect.thrown(Expect.STATE, () -> x.begin(1));
            x.setStart(1);
            Expect.same(3, x.begin(1));
        }
    }

    /** Four parties fill all queues and hold two cells each, which is 44 cells. */
    private static void fullQueuesOfAllParties() {
        QuantityQuarry x = Samples.ended(4);
        for (int party = 0; party < 4; party++) {
            for (int other = 1; other < 4; other++) {
                for (int i = 0; i < 3; i++) {
                    Samples.program(x, party, "n 0", "s " + (party + other) % 4 + " 5 0");
                }
            }
            Samples.program(x, party, "n 0", "n 1");
        }
        x.begin(3);
        for (int i = 0; i < 80; i++) {
            Expect.same('d', x.step(i % 4));
            Expect.same(true, x.isConsistent());
        }
        Expect.same(44, x.cellsInUse());
        Expect.same(39, x.cellIn(3, 0));
        Expect.same(43, x.cellIn(3, 1));
        Expect.same(536, x.messageAt(3, 2, 2));
        for (int party = 0; party < 4; party++) {
            Expect.same('r', x.condition(party));
            Expect.same(11, x.cancel(party));
            for (int from = 0; from < 4; from++) {
                Expect.same(0, x.queued(from, party));
            }
        }
        Expect.same(0, x.cellsInUse());
    }

    private static void whatThrowsChangesNothing() {
        QuantityQuarry x = Samples.pingPong();
        x.begin(2);
        Samples.steps(x, "0");
        Expect.thrown(Expect.STATE, () -> x.begin(1));
        Expect.thrown(Expect.ARGUMENT, () -> x.begin(9));
        Expect.thrown(Expect.STATE, () -> x.setMonitor(1, true));
        Expect.thrown(Expect.ELEMENT, () -> x.stateOf(1));
        Expect.thrown(Expect.INDEX, () -> x.step(2));
        Expect.thrown(Expect.INDEX, () -> x.cancel(-1));
        Expect.same(5, x.at(0));
        Expect.same(1L, x.steps());
        Expect.same("de", Samples.steps(x, "00"));
        Expect.thrown(Expect.UNSUPPORTED, () -> x.step(0));
        Expect.thrown(Expect.UNSUPPORTED, () -> x.cancel(0));
        Expect.same(3L, x.steps());
        Expect.same('e', x.condition(0));
        Expect.same(1, x.queued(0, 1));
        Expect.same(200, x.messageAt(0, 1, 0));
        Expect.same(3, x.close());
    }
}
