/** Promises 37 to 40: steps of all runs, means and shares, and the invariants. */
public final class TotalsTest {
    public static void main(String[] args) {
        steps();
        meanPlaces();
        admittedShare();
        isConsistent();
        admittedPartiesStayRight();
        Expect.finish();
    }

    private static void steps() {
        QuantityQuarry x = Samples.pingPong();
        Expect.same(0L, x.steps());
        x.begin(1);
        Expect.same("bdd", Samples.steps(x, "100"));
        Expect.same(2L, x.steps());
        Expect.same(2, x.close());
        Expect.same(2L, x.steps());
        x.begin(1);
        Expect.same(2L, x.steps());
        Expect.same("ddede", Samples.steps(x, "00011"));
        Expect.same(7L, x.steps());
        Expect.same(5, x.close());
        x.begin(1);
        x.cancel(1);
        Expect.same(7L, x.steps());
        x.close();
        QuantityQuarry every = Samples.ended(4);
        Samples.program(every, 0, "r 1");
        Samples.program(every, 2, "e");
        Samples.program(every, 3, "s 0 0 -1");
        every.setMonitor(3, true);
        every.begin(1);
        Expect.same("bxcev", Samples.steps(every, "01023"));
        Expect.same(4L, every.steps());
        Expect.same(3, every.blamedAt(3));
        Expect.same(4, every.close());
    }

    private static void meanPlaces() {
        QuantityQuarry none = new QuantityQuarry();
        Expect.thrown(Expect.STATE, none::meanPlaces);
        none.addEnd();
        Expect.thrown(Expect.STATE, none::meanPlaces);
        none.setStart(0);
        Expect.thrown(Expect.ARITHMETIC, none::meanPlaces);
        QuantityQuarry x = Samples.ended(3);
        Samples.program(x, 0, "n 0", "u 0", "e");
        Samples.program(x, 1, "j 1", "j 2", "u 0", "e");
        Expect.same((3.0 + 3.0 + 1.0) / 3.0, x.meanPlaces());
        Samples.program(x, 2, "j 1", "e");
        Expect.same(8.0 / 3.0, x.meanPlaces());
        x.begin(1);
        Expect.same(8.0 / 3.0, x.meanPlaces());
        x.close();
        Samples.nodes(x, "01", "12");
        Samples.branches(x, "1 0 2", "1 1 0", "2 0 0");
        x.setStart(1);
        Expect.same((3.0 + 3.0) / 2.0, x.meanPlaces());
        Expect.same('e', x.refusal(2));
        x.addMessage(0, 1);
        Expect.thrown(Expect.STATE, x::meanPlaces);
    }

    private static void admittedShare() {
        QuantityQuarry none = new QuantityQuarry();
        Expect.thrown(Expect.STATE, none::admittedShare);
        none.addEnd();
        none.setStart(0);
        Expect.thrown(Expect.ARITHMETIC, none::admittedShare);
        QuantityQuarry x = Samples.ended(3);
        Expect.same(0.0f, x.admittedShare());
        Samples.program(x, 0, "e");
        Expect.same(1.0f / 3.0f, x.admittedShare());
        Samples.program(x, 1, "j 0");
        Expect.same(2.0f / 3.0f, x.admittedShare());
        Samples.program(x, 2, "e");
        Expect.same(1.0f, x.admittedShare());
        x.addParty();
        Expect.same(0.75f, x.admittedShare());
        Samples.nodes(x, "01", "12");
        Samples.branches(x, "1 0 2", "1 1 0", "2 0 0");
        x.setStart(1);
        Expect.same('q', x.fault(0));
        Expect.same('-', x.fault(1));
        Expect.same('e', x.refusal(2));
        Expect.same(0.25f, x.admittedShare());
        x.setStart(0);
        Expect.same(0.75f, x.admittedShare());
    }

    /** With parties that are not admitted, or a call of cancel(), failures and stuck states are no fault of ours. */
    private static void isConsistent() {
        QuantityQuarry x = Samples.ended(2);
        Expect.same(true, x.isConsistent());
        Samples.program(x, 0, "n 0", "s 1 0 0", "r 1");
        Samples.program(x, 1, "r 0", "? 0 1 1", "r 0");
        x.begin(1);
        for (char party : "0011".toCharArray()) {
            x.step(party - '0');
            Expect.same(true, x.isConsistent());
        }
        Expect.same(true, x.isStuck());
        x.cancel(0);
        Expect.same(true, x.isConsistent());
        x.step(1);
        Expect.same('c', x.condition(1));
        Expect.same(true, x.isConsistent());
        x.close();
        Expect.same(true, x.isConsistent());
        QuantityQuarry cancelled = Samples.pingPong();
        cancelled.setNumber(0, 0, 1);
        cancelled.begin(1);
        cancelled.cancel(1);
        Expect.same(true, cancelled.isConsistent());
        Expect.same("dddc", Samples.steps(cancelled, "0000"));
        Expect.same(true, cancelled.isConsistent());
    }

    /** What the check tells is shown again by all orders of steps. */
    private static void admittedPartiesStayRight() {
        for (int capacity = 1; capacity <= 3; capacity++) {
            for (int first = 0; first < 2; first++) {
                QuantityQuarry x = Samples.pingPong();
                x.setNumber(0, 0, 3);
                Expect.same(1.0f, x.admittedShare());
                x.setMonitor(0, true);
                x.setMonitor(1, true);
                x.begin(capacity);
                Expect.same(0, x.search());
                for (int i = 0; i < 100; i++) {
                    int party = (i + first) % 2;
                    if (x.condition(party) == 'r') {
                        Expect.same(true, "dbe".indexOf(x.step(party)) >= 0);
                    }
                    Expect.same(true, x.isConsistent());
                }
                Expect.same("ee", "" + x.condition(0) + x.condition(1));
            }
        }
    }
}
