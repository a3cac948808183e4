/** Languages that several tests begin with. */
final class Samples {
    private Samples() {
    }

    static QuantityQuarry parties(int count) {
        QuantityQuarry x = new QuantityQuarry();
        for (int i = 0; i < count; i++) {
            x.addParty();
        }
        return x;
    }

    /** Parties and a whole protocol of one end, which is node 0. */
    static QuantityQuarry ended(int parties) {
        QuantityQuarry x = parties(parties);
        x.addEnd();
        x.setStart(0);
        return x;
    }

    /** Nodes for messages told as "01", from party 0 to party 1, or "e" for an end. */
    static void nodes(QuantityQuarry x, String... nodes) {
        for (String node : nodes) {
            if (node.equals("e")) {
                x.addEnd();
            } else {
                x.addMessage(node.charAt(0) - '0', node.charAt(1) - '0');
            }
        }
    }

    /** Branches told as node, label, node, and a cell if the label is followed by '+'. */
    static void branches(QuantityQuarry x, String... branches) {
        for (String branch : branches) {
            String[] parts = branch.split(" ");
            x.addBranch(Integer.parseInt(parts[0]), parts[1].charAt(0) - '0', parts[1].endsWith("+"),
                    Integer.parseInt(parts[2]));
        }
    }

    /** Instructions told as "s 1 0 -1"; numbers that are left out are 0. A case is told as "? label name next". */
    static void program(QuantityQuarry x, int party, String... instructions) {
        int last = -1;
        for (String instruction : instructions) {
            String[] parts = instruction.split(" ");
            int[] numbers = new int[3];
            for (int i = 1; i < parts.length; i++) {
                numbers[i - 1] = Integer.parseInt(parts[i]);
            }
            if (parts[0].equals("?")) {
                x.addCase(party, last, numbers[0], numbers[1], numbers[2]);
            } else {
                last = x.add(party, parts[0].charAt(0), numbers[0], numbers[1], numbers[2]);
            }
        }
    }

    /** Makes steps of the parties told by digits and returns their signs. */
    static String steps(QuantityQuarry x, String parties) {
        StringBuilder signs = new StringBuilder();
        for (char party : parties.toCharArray()) {
            signs.append(x.step(party - '0'));
        }
        return signs.toString();
    }

    /** Party 0 sends party 1 a cell by label 0, which party 1 answers by label 1, over and over, or label 2 and ends. */
    static QuantityQuarry pingPong() {
        QuantityQuarry x = parties(2);
        nodes(x, "01", "10", "e");
        branches(x, "0 0+ 1", "0 2 2", "1 1 0");
        x.setStart(0);
        program(x, 0, "d 0 5", "n 0", "s 1 0 0", "r 1", "? 1 -1 0", "e", "s 1 2 -1", "e");
        program(x, 1, "r 0", "? 0 2 1", "? 2 -1 4", "u 2", "s 0 1 -1", "j 0", "e");
        return x;
    }
}
