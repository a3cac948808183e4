/** Promises 35 and 36: all orders of steps. */
public final class SearchTest {
    public static void main(String[] args) {
        noRun();
        aThousandStates();
        lastOfAThousandIsStuck();
        oneStateMore();
        whatMakesStatesDiffer();
        stuckStates();
        searchesFromWhereTheRunIs();
        failuresAndEndsAreFollowed();
        Expect.finish();
    }

    private static void noRun() {
        QuantityQuarry x = Samples.pingPong();
        Expect.thrown(Expect.STATE, x::search);
        Expect.thrown(Expect.STATE, x::reached);
        x.begin(1);
        Expect.same(0, x.search());
        x.close();
        Expect.thrown(Expect.STATE, x::search);
        Expect.thrown(Expect.STATE, x::reached);
    }

    private static void aThousandStates() {
        QuantityQuarry thousand = Samples.apart(10, 10, 10);
        Expect.same(1000, thousand.reached());
        Expect.same(0, thousand.search());
        QuantityQuarry more = Samples.apart(7, 11, 13);
        Expect.thrown(Expect.UNSUPPORTED, more::reached);
        Expect.thrown(Expect.UNSUPPORTED, more::search);
        Expect.thrown(Expect.UNSUPPORTED, more::reached);
        more.step(1);
        Expect.same(910, more.reached());
        Expect.same(0, more.search());
        Expect.same(1, more.at(1));
        QuantityQuarry many = Samples.apart(20, 20, 20, 20);
        Expect.thrown(Expect.UNSUPPORTED, many::search);
        Expect.same(0, many.at(0));
        Expect.same(0L, many.steps());
        Expect.same(4, Samples.apart(2, 2).reached());
        Expect.same(2, Samples.apart(2).reached());
    }

    private static void lastOfAThousandIsStuck() {
        QuantityQuarry x = Samples.ended(3);
        for (int party = 0; party < 3; party++) {
            for (int i = 0; i < 9; i++) {
                x.add(party, 'j', i + 1, 0, 0);
            }
            x.add(party, 'r', (party + 1) % 3, 0, 0);
        }
        x.begin(1);
        Expect.same(1000, x.reached());
        Expect.same(1, x.search());
    }

    private static void oneStateMore() {
        QuantityQuarry less = Samples.withTail(4, "r 0");
        Expect.same(999, less.reached());
        QuantityQuarry thousand = Samples.withTail(5, "r 0");
        Expect.same(1, thousand.search());
        Expect.same(1000, thousand.reached());
        QuantityQuarry more = Samples.withTail(6, "r 0");
        Expect.thrown(Expect.UNSUPPORTED, more::search);
        Expect.thrown(Expect.UNSUPPORTED, more::reached);
        more.step(0);
        Expect.same(1, more.search());
    }

    private static int reachedBy(int capacity, String[]... programs) {
        QuantityQuarry x = Samples.ended(programs.length);
        for (int party = 0; party < programs.length; party++) {
            Samples.program(x, party, programs[party]);
        }
        x.begin(capacity);
        return x.reached();
    }

    private static void whatMakesStatesDiffer() {
        Expect.same(1, reachedBy(1, new String[] {"j 0"}));
        Expect.same(2, reachedBy(1, new String[] {"j 1", "j 0"}));
        Expect.same(2, reachedBy(1, new String[] {"e"}));
        Expect.same(2, reachedBy(1, new String[] {}));
        String[] waits = {"j 0"};
        String[] twoCells = {"n 0", "j 1"};
        Expect.same(2, reachedBy(1, twoCells, waits));
        Expect.same(5, reachedBy(1, twoCells, twoCells));
        for (int capacity = 1; capacity <= 3; capacity++) {
            Expect.same(2 * capacity + 1, reachedBy(capacity, new String[] {"s 1 0 -1", "j 0"}, waits));
        }
        String[] sendsCells = {"n 0", "s 1 2 0", "j 0"};
        Expect.same(2 + 3, reachedBy(1, sendsCells, waits));
        String[] takesCells = {"r 0", "? 2 3 1", "u 3", "j 0"};
        String[] takesOthers = {"r 0", "? 3 3 1", "u 3", "j 0"};
        Expect.same(true, reachedBy(1, sendsCells, takesCells) > reachedBy(1, sendsCells, takesOthers));
        numbersDiffer();
        statesOfMonitorsDiffer();
    }

    private static void numbersDiffer() {
        QuantityQuarry x = Samples.ended(1);
        Samples.program(x, 0, "d 1 2", "j 0", "e");
        x.setNumber(0, 1, 3);
        x.begin(1);
        Expect.same(9, x.reached());
        Samples.steps(x, "00");
        Expect.same(7, x.reached());
    }

    private static void statesOfMonitorsDiffer() {
        QuantityQuarry x = Samples.parties(2);
        Samples.nodes(x, "01", "01");
        Samples.branches(x, "0 0 1", "1 0 0");
        x.setStart(0);
        Samples.program(x, 0, "s 1 0 -1", "j 0");
        Samples.program(x, 1, "u 0");
        x.begin(1);
        x.step(1);
        Expect.same(2, x.reached());
        x.close();
        x.setMonitor(0, true);
        x.begin(1);
        x.step(1);
        Expect.same(4, x.reached());
        x.close();
        x.setStart(1);
        x.addBranch(0, 1, false, 0);
        Expect.same(2, x.begin(1));
        Expect.same(3 + 4, x.reached());
    }

    private static void stuckStates() {
        QuantityQuarry x = Samples.ended(3);
        Samples.program(x, 0, "n 0", "r 1");
        Samples.program(x, 1, "n 0", "r 0");
        Samples.program(x, 2, "e");
        x.begin(1);
        Expect.same(2, x.search());
        Expect.same(5 * 2, x.reached());
        Samples.steps(x, "0");
        Expect.same(1, x.search());
        Expect.same(4, x.reached());
        Samples.steps(x, "21");
        Expect.same(1, x.search());
        Expect.same(1, x.reached());
        Expect.same(true, x.isStuck());
        x.cancel(0);
        Expect.same(0, x.search());
        Expect.same(2, x.reached());
        x.step(1);
        Expect.same(0, x.search());
        Expect.same(1, x.reached());
    }

    private static void searchesFromWhereTheRunIs() {
        QuantityQuarry x = Samples.pingPong();
        x.setNumber(0, 0, 2);
        x.begin(1);
        int all = x.reached();
        Samples.steps(x, "000");
        String before = told(x);
        int fewer = x.reached();
        Expect.same(0, x.search());
        Expect.same(true, fewer < all);
        Expect.same(before, told(x));
        Expect.same("b", Samples.steps(x, "0"));
        Expect.same(fewer, x.reached());
        Samples.steps(x, "1");
        Expect.same(fewer - 1, x.reached());
        x.close();
        x.begin(1);
        Expect.same(all, x.reached());
        Expect.same(0, x.at(0));
    }

    private static String told(QuantityQuarry x) {
        StringBuilder told = new StringBuilder();
        for (int party = 0; party < 2; party++) {
            told.append(x.at(party)).append(x.condition(party)).append(x.number(party, 0)).append(x.number(party, 1));
            told.append(x.queued(party, 1 - party)).append(' ');
        }
        return told.append(x.cellsInUse()).append(' ').append(x.steps()).append(x.isConsistent()).toString();
    }

    private static void failuresAndEndsAreFollowed() {
        QuantityQuarry x = Samples.ended(2);
        Samples.program(x, 0, "n 0", "s 1 0 0", "e");
        Samples.program(x, 1, "r 0", "? 1 0 1");
        x.begin(1);
        Expect.same(2 + 1 + 2 + 1, x.reached());
        Expect.same(0, x.search());
        x.cancel(0);
        Expect.same(2, x.reached());
    }
}
