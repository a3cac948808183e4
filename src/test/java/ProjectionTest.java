/** Promises 7 to 11: refusals and local states. */
public final class ProjectionTest {
    public static void main(String[] args) {
        exceptions();
        statesOfPingPong();
        statesAreFoundByRisingLabels();
        statesAreSetsNotClosures();
        hiddenMessagesAreClosedOver();
        eachReason();
        firstReasonOfAState();
        firstStateWithAReason();
        fortyStates();
        changesAreSeen();
        allNodesAndParties();
        Expect.finish();
    }

    private static QuantityQuarry refused() {
        return hidden("1 0+ 4", "2 0 4", "3 0 4");
    }

    /** Party 0 tells party 1 by node 0 to go on at node 1, 2 or 3, where party 2 sends to party 1; node 4 ends. */
    private static QuantityQuarry hidden(String... branches) {
        QuantityQuarry x = Samples.parties(3);
        Samples.nodes(x, "01", "21", "21", "21", "e");
        Samples.branches(x, "0 0 1", "0 1 2", "0 2 3");
        Samples.branches(x, branches);
        x.setStart(0);
        return x;
    }

    private static void exceptions() {
        QuantityQuarry x = Samples.parties(3);
        for (int party : new int[] {-1, 3, 4, Integer.MAX_VALUE}) {
            Expect.thrown(Expect.INDEX, () -> x.refusal(party));
            Expect.thrown(Expect.INDEX, () -> x.states(party));
            Expect.thrown(Expect.INDEX, () -> x.kindOf(party, 0));
            Expect.thrown(Expect.INDEX, () -> x.partnerOf(party, 0));
            Expect.thrown(Expect.INDEX, () -> x.follower(party, 0, 0));
        }
        Samples.nodes(x, "e", "01");
        x.setStart(0);
        notWhole(x);
        QuantityQuarry noStart = Samples.parties(3);
        noStart.addEnd();
        notWhole(noStart);
        notWhole(Samples.parties(3));
        QuantityQuarry refused = refused();
        Expect.same('k', refused.refusal(2));
        Expect.thrown(Expect.UNSUPPORTED, () -> refused.states(2));
        Expect.thrown(Expect.UNSUPPORTED, () -> refused.kindOf(2, 0));
        Expect.thrown(Expect.UNSUPPORTED, () -> refused.kindOf(2, 99));
        Expect.thrown(Expect.UNSUPPORTED, () -> refused.partnerOf(2, 99));
        Expect.thrown(Expect.UNSUPPORTED, () -> refused.follower(2, 99, 0));
        Expect.same('-', refused.refusal(0));
        Expect.same('-', refused.refusal(1));
    }

    private static void notWhole(QuantityQuarry x) {
        Expect.thrown(Expect.STATE, () -> x.refusal(0));
        Expect.thrown(Expect.STATE, () -> x.states(0));
        Expect.thrown(Expect.STATE, () -> x.kindOf(0, 0));
        Expect.thrown(Expect.STATE, () -> x.partnerOf(0, 0));
        Expect.thrown(Expect.STATE, () -> x.follower(0, 0, 0));
    }

    private static void statesOfPingPong() {
        QuantityQuarry x = Samples.pingPong();
        Expect.same(3, x.states(0));
        Expect.same(3, x.states(1));
        Expect.same('s', x.kindOf(0, 0));
        Expect.same('r', x.kindOf(0, 1));
        Expect.same('e', x.kindOf(0, 2));
        Expect.same('r', x.kindOf(1, 0));
        Expect.same('s', x.kindOf(1, 1));
        Expect.same(1, x.partnerOf(0, 0));
        Expect.same(1, x.partnerOf(0, 1));
        Expect.same(0, x.partnerOf(1, 1));
        Expect.thrown(Expect.ELEMENT, () -> x.partnerOf(0, 2));
        Expect.same(101, x.follower(0, 0, 0));
        Expect.same(2, x.follower(0, 0, 2));
        Expect.same(0, x.follower(1, 1, 1));
        for (int label : new int[] {-1, 1, 3, 6, 7, 32, Integer.MIN_VALUE}) {
            Expect.thrown(Expect.ELEMENT, () -> x.follower(0, 0, label));
        }
        Expect.thrown(Expect.ELEMENT, () -> x.follower(0, 2, 0));
        for (int state : new int[] {-1, 3, 40, Integer.MAX_VALUE}) {
            Expect.thrown(Expect.ELEMENT, () -> x.kindOf(0, state));
            Expect.thrown(Expect.ELEMENT, () -> x.partnerOf(0, state));
            Expect.thrown(Expect.ELEMENT, () -> x.follower(0, state, 0));
        }
    }

    private static void statesAreFoundByRisingLabels() {
        QuantityQuarry x = Samples.parties(2);
        Samples.nodes(x, "01", "e", "10", "01", "e", "e");
        Samples.branches(x, "0 5 1", "0 3 2", "0 0 3", "2 4 4", "3 2 5", "3 1 0");
        x.setStart(0);
        Expect.same(6, x.states(0));
        Expect.same(1, x.follower(0, 0, 0));
        Expect.same(2, x.follower(0, 0, 3));
        Expect.same(3, x.follower(0, 0, 5));
        Expect.same(0, x.follower(0, 1, 1));
        Expect.same(4, x.follower(0, 1, 2));
        Expect.same(5, x.follower(0, 2, 4));
        Expect.same("sreee", "" + x.kindOf(0, 1) + x.kindOf(0, 2) + x.kindOf(0, 3) + x.kindOf(0, 4) + x.kindOf(0, 5));
    }

    private static void statesAreSetsNotClosures() {
        QuantityQuarry x = Samples.parties(3);
        Samples.nodes(x, "01", "12", "e");
        Samples.branches(x, "0 0 1", "0 1 2", "1 0 2");
        x.setStart(0);
        Expect.same(3, x.states(0));
        Expect.same('e', x.kindOf(0, 1));
        Expect.same('e', x.kindOf(0, 2));
        Expect.same('e', x.refusal(2));
        Expect.same(3, x.states(1));
    }

    private static void hiddenMessagesAreClosedOver() {
        QuantityQuarry x = hidden("1 0+ 4", "1 1 1", "2 0+ 4", "2 1 2", "3 0+ 4", "3 1 0");
        Expect.same('-', x.refusal(2));
        Expect.same('s', x.kindOf(2, 0));
        Expect.same(1, x.partnerOf(2, 0));
        Expect.same(101, x.follower(2, 0, 0));
        Expect.same(2, x.follower(2, 0, 1));
        Expect.same(1 + 100, x.follower(2, 2, 0));
        Expect.same(2, x.follower(2, 2, 1));
        Expect.same(3, x.states(2));
        Expect.same('e', x.kindOf(2, 1));
        QuantityQuarry far = Samples.parties(3);
        Samples.nodes(far, "20", "10", "01", "10", "01", "e");
        Samples.branches(far, "4 0 3", "3 0 2", "2 0 1", "1 0 0", "0 1 5");
        far.setStart(4);
        Expect.same('s', far.kindOf(2, 0));
        Expect.same(1, far.follower(2, 0, 1));
        Expect.same(6, far.states(0));
    }

    private static void eachReason() {
        QuantityQuarry receives = Samples.parties(3);
        Samples.nodes(receives, "01", "12", "12", "e");
        Samples.branches(receives, "0 0 1", "0 1 2", "1 0+ 3", "2 1 3", "2 2 3");
        receives.setStart(0);
        Expect.same('-', receives.refusal(2));
        Expect.same(101, receives.follower(2, 0, 0));
        Expect.same(1, receives.follower(2, 0, 1));
        receives.addBranch(1, 2, true, 3);
        Expect.same('k', receives.refusal(2));

        Expect.same('l', hidden("1 0 4", "2 0 4", "2 1 4", "3 0 4").refusal(2));
        Expect.same('-', hidden("1 0 4", "2 0 4", "3 0 4").refusal(2));
        Expect.same('e', hidden("1 0 4", "2 0 0", "3 0 4").refusal(2));

        QuantityQuarry both = Samples.parties(3);
        Samples.nodes(both, "01", "12", "21", "e");
        Samples.branches(both, "0 0 1", "0 1 2", "1 0 3", "2 0 3");
        both.setStart(0);
        Expect.same('m', both.refusal(2));
        Expect.same('-', both.refusal(1));

        QuantityQuarry others = Samples.parties(4);
        Samples.nodes(others, "01", "23", "20", "e");
        Samples.branches(others, "0 0 1", "0 1 2", "1 0 3", "2 0 3");
        others.setStart(0);
        Expect.same('t', others.refusal(2));

        QuantityQuarry endless = Samples.parties(3);
        Samples.nodes(endless, "01", "01", "12", "e");
        Samples.branches(endless, "0 0 1", "0 1 2", "1 0 1", "2 0 3");
        endless.setStart(0);
        Expect.same('e', endless.refusal(2));
        endless.addBranch(1, 1, false, 0);
        Expect.same('-', endless.refusal(2));
        Expect.same('-', endless.refusal(0));
    }

    /** Of all reasons that a state gives, the first one in the document's order is told. */
    private static void firstReasonOfAState() {
        Expect.same('m', reasonOf("12", "20", "e", "2 0 4", "2 1 4"));
        Expect.same('m', reasonOf("21", "02", "12", "2 0 4", "3 0+ 4"));
        Expect.same('e', reasonOf("21", "20", "e", "2 0 4", "2 1 4"));
        Expect.same('t', reasonOf("21", "20", "21", "2 0 4", "2 1 4", "3 0 4"));
        Expect.same('l', reasonOf("21", "21", "21", "2 0 4", "2 1 4", "3 0+ 4"));
        Expect.same('k', reasonOf("21", "21", "21", "2 0 4", "3 0 4"));
        Expect.same('-', reasonOf("21", "21", "21", "2 0+ 4", "3 0+ 4"));
    }

    private static char reasonOf(String first, String second, String third, String... branches) {
        return Samples.oneOfThree(first, second, third, branches).refusal(2);
    }

    private static void firstStateWithAReason() {
        Expect.same('k', twoReasons(0, 1));
        Expect.same('m', twoReasons(1, 0));
    }

    /** Party 2 chooses by one label what gives the reason 'k', by another one what gives 'm'. */
    private static char twoReasons(int labelOfK, int labelOfM) {
        QuantityQuarry x = Samples.parties(3);
        Samples.nodes(x, "21", "01", "21", "21", "01", "21", "12", "e");
        x.addBranch(0, labelOfM, false, 4);
        x.addBranch(0, labelOfK, false, 1);
        Samples.branches(x, "1 0 2", "1 1 3", "2 0 7", "3 0+ 7", "4 0 5", "4 1 6", "5 0 7", "6 0 7");
        x.setStart(0);
        return x.refusal(2);
    }

    private static void fortyStates() {
        QuantityQuarry forty = Samples.cycles(true, 3, 13, false);
        Expect.same('-', forty.refusal(2));
        Expect.same(40, forty.states(2));
        Expect.same(39, forty.follower(2, 38, 5));
        Expect.same(1, forty.follower(2, 39, 5));
        Expect.same('r', forty.kindOf(2, 39));
        Expect.same(1, forty.partnerOf(2, 39));
        Expect.thrown(Expect.ELEMENT, () -> forty.kindOf(2, 40));
        Expect.same(17, forty.states(1));
        QuantityQuarry more = Samples.cycles(true, 5, 8, false);
        Expect.same('b', more.refusal(2));
        Expect.thrown(Expect.UNSUPPORTED, () -> more.states(2));
        Expect.same('-', more.refusal(1));
        Expect.same('-', more.refusal(0));
        more.setStart(1);
        Expect.same('-', more.refusal(2));
        Expect.same(5, more.states(2));
        more.setStart(0);
        more.addBranch(1, 3, false, 0);
        Expect.same('b', more.refusal(2));
        more.addBranch(2, 3, true, 0);
        Expect.same('b', more.refusal(2));
        more.addBranch(6, 3, false, 0);
        Expect.same('k', more.refusal(2));
    }

    /** Node 19 begins a way down to node 1, hidden from parties 2 and 3 but for its ends. */
    private static void allNodesAndParties() {
        QuantityQuarry x = Samples.parties(4);
        Samples.nodes(x, "e", "23");
        for (int node = 2; node < 19; node++) {
            x.addMessage(node % 2, 1 - node % 2);
        }
        x.addMessage(3, 2);
        for (int node = 1; node < 19; node++) {
            x.addBranch(node, node % 6, node % 2 == 0, node - 1);
        }
        x.setStart(19);
        Expect.thrown(Expect.STATE, () -> x.refusal(0));
        x.addBranch(19, 3, true, 18);
        for (int party = 0; party < 4; party++) {
            Expect.same('-', x.refusal(party));
            Expect.same(party < 2 ? 19 - 1 : 3, x.states(party));
        }
        Expect.same(3, x.partnerOf(2, 0));
        Expect.same(2, x.partnerOf(3, 0));
        Expect.same('r', x.kindOf(2, 0));
        Expect.same(101, x.follower(2, 0, 3));
        Expect.same(2, x.follower(2, 1, 1));
        Expect.same(3, x.partnerOf(2, 1));
        Expect.same(101, x.follower(0, 0, 0));
        Expect.same(2, x.follower(0, 1, 5));
        x.addBranch(19, 4, false, 0);
        Expect.same('-', x.refusal(2));
        Expect.same('e', x.refusal(0));
        QuantityQuarry whole = Samples.parties(2);
        Samples.nodes(whole, "01", "e");
        whole.setStart(1);
        Expect.thrown(Expect.STATE, () -> whole.refusal(0));
        whole.addBranch(0, 0, false, 1);
        Expect.same('-', whole.refusal(0));
        wideStates();
    }

    /** Nodes 0 and 19 stand in one state, so that each of them is looked at. */
    private static void wideStates() {
        for (int wrong = 0; wrong < 4; wrong++) {
            QuantityQuarry x = Samples.parties(4);
            x.addMessage(3, wrong == 1 ? 1 : 2);
            Samples.nodes(x, "e", "01");
            for (int node = 3; node < 19; node++) {
                x.addEnd();
            }
            x.addMessage(3, 2);
            Samples.branches(x, "2 0 0", "2 1 19");
            x.addBranch(0, 5, true, 1);
            x.addBranch(19, 5, wrong != 3, 1);
            if (wrong == 2) {
                x.addBranch(19, 4, false, 1);
            }
            x.setStart(2);
            Expect.same("-tlk".charAt(wrong), x.refusal(3));
            if (wrong == 0) {
                x.addBranch(0, 0, false, 0);
                x.addBranch(19, 0, false, 19);
                Expect.same(3, x.states(3));
                Expect.same(1, x.follower(3, 0, 0));
                Expect.same(102, x.follower(3, 0, 5));
            }
        }
    }

    private static void changesAreSeen() {
        QuantityQuarry x = Samples.parties(3);
        Samples.nodes(x, "01", "e");
        Samples.branches(x, "0 0 1");
        x.setStart(0);
        Expect.same(2, x.states(0));
        Expect.same(1, x.states(2));
        x.addBranch(0, 1, true, 0);
        Expect.same(2, x.states(0));
        Expect.same(100, x.follower(0, 0, 1));
        x.addMessage(0, 2);
        Expect.thrown(Expect.STATE, () -> x.states(0));
        x.addBranch(2, 4, false, 1);
        Expect.same(2, x.states(0));
        x.addBranch(0, 5, false, 2);
        Expect.same(3, x.states(0));
        Expect.same('e', x.refusal(2));
        x.setStart(2);
        Expect.same('-', x.refusal(2));
        Expect.same(2, x.states(2));
        Expect.same(0, x.partnerOf(2, 0));
        x.begin(1);
        Expect.same(2, x.states(2));
        Expect.same('s', x.kindOf(0, 0));
    }
}
