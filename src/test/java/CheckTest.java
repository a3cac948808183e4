/** Promises 15 to 19: the check of programs. */
public final class CheckTest {
    public static void main(String[] args) {
        exceptions();
        pingPong();
        noSuchInstruction();
        names();
        sends();
        receives();
        ends();
        reasonsLabelByLabel();
        placesInOrder();
        namesMakePlaces();
        statesMakePlaces();
        idleCases();
        lastInstruction();
        changesAreSeen();
        Expect.finish();
    }

    /** Party 0 sends party 1 label 1 with a cell, or label 2; then all is over. */
    private static QuantityQuarry oneMessage() {
        QuantityQuarry x = Samples.parties(3);
        Samples.nodes(x, "01", "e");
        Samples.branches(x, "0 1+ 1", "0 2 1");
        x.setStart(0);
        return x;
    }

    /** What the check of a program of a party of oneMessage tells: reason, instruction, places, idle cases. */
    private static String told(int party, String... program) {
        QuantityQuarry x = oneMessage();
        Samples.program(x, party, program);
        return Samples.check(x, party);
    }

    private static void exceptions() {
        QuantityQuarry x = Samples.parties(2);
        for (int party : new int[] {-1, 2, Integer.MIN_VALUE}) {
            Expect.thrown(Expect.INDEX, () -> x.fault(party));
            Expect.thrown(Expect.INDEX, () -> x.faultAt(party));
            Expect.thrown(Expect.INDEX, () -> x.places(party));
            Expect.thrown(Expect.INDEX, () -> x.idleCases(party));
            Expect.thrown(Expect.INDEX, () -> x.isAdmitted(party));
        }
        Expect.thrown(Expect.STATE, () -> x.fault(0));
        Expect.thrown(Expect.STATE, () -> x.faultAt(0));
        Expect.thrown(Expect.STATE, () -> x.places(0));
        Expect.thrown(Expect.STATE, () -> x.idleCases(0));
        Expect.thrown(Expect.STATE, () -> x.isAdmitted(0));
        x.addParty();
        Samples.nodes(x, "01", "02", "e");
        Samples.branches(x, "0 0 2", "0 1 1", "1 0 2");
        x.setStart(0);
        Samples.program(x, 2, "e");
        Expect.same('e', x.refusal(2));
        Expect.thrown(Expect.UNSUPPORTED, () -> x.fault(2));
        Expect.thrown(Expect.UNSUPPORTED, () -> x.faultAt(2));
        Expect.thrown(Expect.UNSUPPORTED, () -> x.places(2));
        Expect.thrown(Expect.UNSUPPORTED, () -> x.idleCases(2));
        Expect.same(false, x.isAdmitted(2));
    }

    private static void pingPong() {
        QuantityQuarry x = Samples.pingPong();
        Expect.same("- 6 0", Samples.check(x, 0));
        Expect.same("- 5 0", Samples.check(x, 1));
        x.begin(1);
        Expect.same("- 5 0", Samples.check(x, 1));
    }

    private static void noSuchInstruction() {
        Expect.same("i 0 1 0", told(0));
        Expect.same("i 1 2 0", told(2, "j 1"));
        Expect.same("i 19 2 0", told(2, "j 19", "e"));
        Expect.same("i 2 3 0", told(0, "s 1 2 -1", "d 0 0"));
        String[] long20 = new String[20];
        for (int i = 0; i < 20; i++) {
            long20[i] = i % 2 == 0 ? "n 0" : "u 0";
        }
        Expect.same("i 20 21 0", told(2, long20));
    }

    private static void names() {
        Expect.same("h 1 2 0", told(2, "n 0", "n 0", "e"));
        Expect.same("h 0 1 0", told(2, "u 3", "e"));
        Expect.same("h 1 2 0", told(2, "n 0", "u 1", "e"));
        Expect.same("h 0 1 0", told(2, "m 0 1", "e"));
        Expect.same("h 2 3 0", told(2, "n 0", "n 1", "m 0 1", "e"));
        Expect.same("h 1 2 0", told(2, "n 0", "m 0 0", "e"));
        Expect.same("h 0 1 0", told(2, "m 2 2", "e"));
        Expect.same("- 4 0", told(2, "n 3", "m 3 0", "u 0", "e"));
        Expect.same("h 2 3 0", told(2, "n 3", "m 3 0", "u 3", "e"));
        Expect.same("h 2 3 0", told(2, "n 1", "u 1", "u 1", "e"));
        Expect.same("- 5 0", told(2, "n 1", "u 1", "n 1", "u 1", "e"));
    }

    private static void sends() {
        Expect.same("- 2 0", told(0, "s 1 2 -1", "e"));
        Expect.same("- 3 0", told(0, "n 2", "s 1 1 2", "e"));
        Expect.same("h 0 1 0", told(0, "s 2 5 2", "e"));
        Expect.same("h 1 2 0", told(0, "n 1", "s 1 1 2", "e"));
        Expect.same("p 0 1 0", told(0, "s 2 1 -1", "e"));
        Expect.same("p 0 1 0", told(1, "s 0 1 -1", "e"));
        Expect.same("p 0 1 0", told(2, "s 0 1 -1", "e"));
        Expect.same("p 1 2 0", told(0, "s 1 2 -1", "s 1 2 -1"));
        Expect.same("l 0 1 0", told(0, "s 1 0 -1", "e"));
        Expect.same("l 1 2 0", told(0, "n 0", "s 1 3 0", "e"));
        Expect.same("c 0 1 0", told(0, "s 1 1 -1", "e"));
        Expect.same("c 1 2 0", told(0, "n 0", "s 1 2 0", "e"));
        Expect.same("h 2 3 0", told(0, "n 0", "s 1 1 0", "u 0"));
        Expect.same("k 3 4 0", told(0, "n 0", "n 3", "s 1 1 0", "e"));
    }

    private static void receives() {
        Expect.same("- 3 0", told(1, "r 0", "? 1 0 1", "? 2 -1 2", "u 0", "e"));
        Expect.same("p 0 1 2", told(1, "r 2", "? 1 0 1", "? 2 -1 2", "u 0", "e"));
        Expect.same("p 0 1 1", told(0, "r 1", "? 1 0 1", "e"));
        Expect.same("p 0 1 0", told(2, "r 0", "e"));
        Expect.same("o 0 1 0", told(1, "r 0", "e"));
        Expect.same("o 0 1 1", told(1, "r 0", "? 1 0 1", "u 0", "e"));
        Expect.same("o 0 1 1", told(1, "r 0", "? 2 -1 1", "e"));
        Expect.same("c 0 1 2", told(1, "r 0", "? 1 -1 1", "? 2 -1 1", "e"));
        Expect.same("c 0 1 2", told(1, "r 0", "? 1 0 1", "? 2 0 1", "u 0", "e"));
        Expect.same("h 1 2 2", told(1, "n 3", "r 0", "? 1 3 2", "? 2 -1 2", "u 3", "e"));
        Expect.same("- 5 0", told(1, "n 3", "r 0", "? 1 2 3", "? 2 -1 4", "e", "u 2", "u 3", "e"));
        Expect.same("i 9 3 0", told(1, "r 0", "? 1 0 1", "? 2 -1 9", "u 0", "e"));
    }

    private static void ends() {
        Expect.same("- 1 0", told(2, "e"));
        Expect.same("q 0 1 0", told(0, "e"));
        Expect.same("q 0 1 0", told(1, "e"));
        Expect.same("q 1 2 0", told(0, "n 0", "e"));
        Expect.same("k 1 2 0", told(2, "n 3", "e"));
        Expect.same("- 1 0", told(2, "j 0"));
        Expect.same("- 2 0", told(2, "d 0 0", "e"));
    }

    /** Of two labels, all reasons of the lower one come first, and of one label 'o', 'c' and 'h' in this order. */
    private static void reasonsLabelByLabel() {
        Expect.same("h 1 2 1", told(1, "n 0", "r 0", "? 1 0 2", "u 0", "e"));
        Expect.same("c 1 2 1", told(1, "n 0", "r 0", "? 1 -1 2", "u 0", "e"));
        Expect.same("o 1 2 1", told(1, "n 0", "r 0", "? 2 0 2", "u 0", "e"));
        Expect.same("c 1 2 2", told(1, "n 0", "r 0", "? 1 1 2", "? 2 0 2", "u 0", "e"));
        Expect.same("h 1 2 2", told(1, "n 0", "r 0", "? 1 0 2", "? 2 0 2", "u 0", "e"));
    }

    private static void placesInOrder() {
        Expect.same("h 1 2 0", told(2, "d 0 2", "u 0", "u 1"));
        Expect.same("h 3 3 0", told(2, "d 0 3", "d 1 0", "e", "u 0"));
        Expect.same("k 3 5 0", told(2, "d 0 4", "j 2", "n 0", "e", "j 2"));
        QuantityQuarry x = Samples.parties(2);
        Samples.nodes(x, "01", "e");
        Samples.branches(x, "0 4 1", "0 0 1", "0 3 1");
        x.setStart(0);
        Samples.program(x, 1, "r 0", "? 4 -1 1", "? 3 -1 2", "? 0 -1 3", "u 1", "u 2", "e");
        Expect.same("h 2 3 0", Samples.check(x, 1));
    }

    private static void namesMakePlaces() {
        Expect.same("h 3 4 0", told(2, "d 0 2", "j 3", "n 0", "u 0", "e"));
        Expect.same("- 5 0", told(2, "d 0 3", "n 0", "u 0", "j 4", "e"));
        Expect.same("- 4 0", told(2, "d 0 2", "n 0", "j 2"));
        Expect.same("k 2 4 0", told(2, "d 0 2", "n 0", "e"));
        Expect.same("- 16 0", told(2, "n 0", "n 1", "n 2", "n 3", "u 3", "m 2 3", "u 3", "m 0 3", "m 1 2", "m 3 1",
                "u 1", "n 0", "u 2", "m 0 3", "u 3", "e"));
    }

    private static void statesMakePlaces() {
        QuantityQuarry x = Samples.parties(2);
        Samples.nodes(x, "01", "01", "01", "e");
        Samples.branches(x, "0 0 1", "1 0 2", "2 1 3");
        x.setStart(0);
        Samples.program(x, 1, "r 0", "? 0 -1 0", "? 1 -1 1", "? 2 -1 0", "e");
        Expect.same("- 4 1", Samples.check(x, 1));
        Samples.program(x, 0, "s 1 0 -1", "j 0");
        Expect.same("l 0 5 0", Samples.check(x, 0));
    }

    private static void idleCases() {
        Expect.same("- 3 4", told(1, "r 0", "? 1 0 1", "? 2 -1 2", "? 0 0 9", "? 3 -1 9", "u 0", "e",
                "r 2", "? 0 0 0", "? 5 0 0"));
        Expect.same("- 3 0", told(1, "r 0", "? 2 -1 2", "? 1 0 1", "u 0", "e", "r 2"));
    }

    /** Instruction 19 goes on at itself, and has cases that are idle. */
    private static void lastInstruction() {
        QuantityQuarry x = Samples.ended(2);
        for (int i = 0; i < 19; i++) {
            x.add(0, 'j', 19, 0, 0);
            x.add(1, 'j', 19, 0, 0);
        }
        x.add(0, 'j', 19, 0, 0);
        x.add(1, 'r', 0, 0, 0);
        x.addCase(1, 19, 0, -1, 0);
        x.addCase(1, 19, 5, -1, 0);
        Expect.same("- 2 0", Samples.check(x, 0));
        Expect.same("p 19 2 2", Samples.check(x, 1));
        Samples.nodes(x, "01");
        Samples.branches(x, "1 0 1", "1 3 1");
        x.setStart(1);
        Expect.same("o 19 2 2", Samples.check(x, 1));
        x.addCase(1, 19, 3, -1, 19);
        Expect.same("- 2 1", Samples.check(x, 1));
        QuantityQuarry label0 = Samples.parties(2);
        Samples.nodes(label0, "01", "e");
        Samples.branches(label0, "0 0 1");
        label0.setStart(0);
        Samples.program(label0, 1, "r 0", "? 5 -1 0");
        Expect.same("o 0 1 1", Samples.check(label0, 1));
    }

    private static void changesAreSeen() {
        QuantityQuarry x = oneMessage();
        Expect.same("i 0 1 0", Samples.check(x, 1));
        x.add(1, 'r', 0, 0, 0);
        Expect.same("o 0 1 0", Samples.check(x, 1));
        x.addCase(1, 0, 1, 0, 1);
        Expect.same("o 0 1 1", Samples.check(x, 1));
        x.addCase(1, 0, 2, -1, 2);
        Expect.same("i 1 2 0", Samples.check(x, 1));
        x.add(1, 'u', 0, 0, 0);
        Expect.same("i 2 3 0", Samples.check(x, 1));
        x.add(1, 'e', 0, 0, 0);
        Expect.same("- 3 0", Samples.check(x, 1));
        x.addBranch(0, 3, false, 1);
        Expect.same("o 0 1 2", Samples.check(x, 1));
        x.setStart(1);
        Expect.same("p 0 1 2", Samples.check(x, 1));
        x.setStart(0);
        x.addCase(1, 0, 3, -1, 2);
        Expect.same("- 3 0", Samples.check(x, 1));
    }
}
