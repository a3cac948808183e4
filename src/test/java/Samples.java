/** Languages that several tests begin with. */
final class Samples {
    private Samples() {
    }

    static QuantityQuarry parties(int count) {
        QuantityQuarry x = new QuantityQuarry();
        for (int i = 0; i < count; i++) {
            x.addParty();
        }
        return x;
    }

    /** Parties and a whole protocol of one end, which is node 0. */
    static QuantityQuarry ended(int parties) {
        QuantityQuarry x = parties(parties);
        x.addEnd();
        x.setStart(0);
        return x;
    }

    /** Nodes for messages told as "01", from party 0 to party 1, or "e" for an end. */
    static void nodes(QuantityQuarry x, String... nodes) {
        for (String node : nodes) {
            if (node.equals("e")) {
                x.addEnd();
            } else {
                x.addMessage(node.charAt(0) - '0', node.charAt(1) - '0');
            }
        }
    }

    /** Branches told as node, label, node, and a cell if the label is followed by '+'. */
    static void branches(QuantityQuarry x, String... branches) {
        for (String branch : branches) {
            String[] parts = branch.split(" ");
            x.addBranch(Integer.parseInt(parts[0]), parts[1].charAt(0) - '0', parts[1].endsWith("+"),
                    Integer.parseInt(parts[2]));
        }
    }

    /** Instructions told as "s 1 0 -1"; numbers that are left out are 0. A case is told as "? label name next". */
    static void program(QuantityQuarry x, int party, String... instructions) {
        int last = -1;
        for (String instruction : instructions) {
            String[] parts = instruction.split(" ");
            int[] numbers = new int[3];
            for (int i = 1; i < parts.length; i++) {
                numbers[i - 1] = Integer.parseInt(parts[i]);
            }
            if (parts[0].equals("?")) {
                x.addCase(party, last, numbers[0], numbers[1], numbers[2]);
            } else {
                last = x.add(party, parts[0].charAt(0), numbers[0], numbers[1], numbers[2]);
            }
        }
    }

    /** Makes steps of the parties told by digits and returns their signs. */
    static String steps(QuantityQuarry x, String parties) {
        StringBuilder signs = new StringBuilder();
        for (char party : parties.toCharArray()) {
            signs.append(x.step(party - '0'));
        }
        return signs.toString();
    }

    /** Party 0 sends party 1 a cell by label 0, which it answers by label 1, over and over, or label 2 and ends. */
    static QuantityQuarry pingPong() {
        QuantityQuarry x = parties(2);
        nodes(x, "01", "10", "e");
        branches(x, "0 0+ 1", "0 2 2", "1 1 0");
        x.setStart(0);
        program(x, 0, "d 0 5", "n 0", "s 1 0 0", "r 1", "? 1 -1 0", "e", "s 1 2 -1", "e");
        program(x, 1, "r 0", "? 0 2 1", "? 2 -1 4", "u 2", "s 0 1 -1", "j 0", "e");
        return x;
    }

    /** Party 2 is refused: it does not learn whether it is to receive, which is to be the start, node 0. */
    static QuantityQuarry refusedButForAStart(int parties) {
        QuantityQuarry x = parties(parties);
        nodes(x, "01", "02", "e");
        branches(x, "0 0 2", "0 1 1", "1 0 2");
        return x;
    }

    static QuantityQuarry refused(int parties) {
        QuantityQuarry x = refusedButForAStart(parties);
        x.setStart(0);
        return x;
    }

    /**
     * Party 2 receives label 5 from party 1, or sends it, and does not learn in which of two cycles it is, so that
     * it has 1 state more than the least length that both lengths divide.
     */
    static QuantityQuarry cycles(boolean receives, int first, int second, boolean hasCell) {
        QuantityQuarry x = parties(3);
        nodes(x, "01");
        for (int i = 0; i < first + second; i++) {
            x.addMessage(receives ? 1 : 2, receives ? 2 : 1);
        }
        x.addBranch(0, 0, false, 1);
        x.addBranch(0, 1, false, 1 + first);
        for (int i = 0; i < first; i++) {
            x.addBranch(1 + i, 5, hasCell, 1 + (i + 1) % first);
        }
        for (int i = 0; i < second; i++) {
            x.addBranch(1 + first + i, 5, hasCell, 1 + first + (i + 1) % second);
        }
        x.setStart(0);
        return x;
    }

    /** A run of parties that do not speak: the numbers of their states are multiplied. */
    static QuantityQuarry apart(int... states) {
        QuantityQuarry x = ended(states.length);
        for (int party = 0; party < states.length; party++) {
            for (int i = 0; i < states[party] - 2; i++) {
                x.add(party, 'j', i + 1, 0, 0);
            }
            x.add(party, 'e', 0, 0, 0);
        }
        x.begin(1);
        return x;
    }

    /**
     * A run of three parties that send to party 3 and wait for it; party 3 takes that, and goes on alone until its
     * last instruction. With 5 jumps 1000 states can be reached, with each jump more one more.
     */
    static QuantityQuarry withTail(int jumps, String last) {
        QuantityQuarry x = ended(4);
        int[] before = {2, 12, 12};
        for (int party = 0; party < 3; party++) {
            for (int i = 0; i < before[party]; i++) {
                x.add(party, 'j', i + 1, 0, 0);
            }
            program(x, party, "s 3 0 -1", "r 3");
        }
        program(x, 3, "r 0", "? 0 -1 1", "r 1", "? 0 -1 2", "r 2", "? 0 -1 3");
        for (int i = 0; i < jumps; i++) {
            x.add(3, 'j', i + 4, 0, 0);
        }
        program(x, 3, last);
        x.begin(1);
        return x;
    }

    /** Party 2 is at one of three nodes, of which the first has the label 0 with a cell; node 4 is an end. */
    static QuantityQuarry oneOfThree(String first, String second, String third, String... branches) {
        QuantityQuarry x = parties(3);
        nodes(x, "01", first, second, third, "e");
        branches(x, "0 0 1", "0 1 2", "0 2 3", "1 0+ 4");
        branches(x, branches);
        x.setStart(0);
        return x;
    }

    /** What is told of the check of a party: reason, instruction, places, idle cases. */
    static String check(QuantityQuarry x, int party) {
        char fault = x.fault(party);
        Expect.same(fault == '-', x.isAdmitted(party));
        String at = "";
        if (fault == '-') {
            Expect.thrown(Expect.ELEMENT, () -> x.faultAt(party));
        } else {
            at = " " + x.faultAt(party);
        }
        return fault + at + " " + x.places(party) + " " + x.idleCases(party);
    }
}
