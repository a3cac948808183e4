/** Promises 12 to 14: instructions, cases and numbers. */
public final class ProgramTest {
    public static void main(String[] args) {
        numbersOfEachKind();
        partiesOfInstructions();
        twentyInstructions();
        addCase();
        setNumber();
        nothingIsToldInARun();
        whatThrowsChangesNothing();
        Expect.finish();
    }

    private static void wrong(char kind, int a, int b, int c) {
        QuantityQuarry x = Samples.parties(3);
        Expect.thrown(Expect.ARGUMENT, () -> x.add(1, kind, a, b, c));
        Expect.same(0, x.add(1, 'e', 0, 0, 0));
    }

    private static void right(char kind, int a, int b, int c) {
        QuantityQuarry x = Samples.parties(3);
        Expect.same(0, x.add(1, kind, a, b, c));
        Expect.same(1, x.add(1, kind, a, b, c));
    }

    /** The least and the greatest of each number are right, those just outside wrong. */
    private static void numbersOfEachKind() {
        int[][] least = {{0, 0, 0}, {0, 0, 0}, {0, 0, 0}, {0, 0, 0}, {0, 0, 0}, {0, 0, -1}, {0, 0, 0}, {0, 0, 0}};
        int[][] greatest = {{3, 0, 0}, {3, 0, 0}, {3, 3, 0}, {19, 0, 0}, {1, 19, 0}, {2, 5, 3}, {2, 0, 0}, {0, 0, 0}};
        for (int k = 0; k < 8; k++) {
            char kind = "numjdsre".charAt(k);
            int[] low = least[k];
            int[] high = greatest[k];
            right(kind, low[0], low[1], low[2]);
            right(kind, high[0], high[1], high[2]);
            wrong(kind, low[0] - 1, low[1], low[2]);
            wrong(kind, low[0], low[1] - 1, low[2]);
            wrong(kind, low[0], low[1], low[2] - 1);
            wrong(kind, high[0] + 1, high[1], high[2]);
            wrong(kind, high[0], high[1] + 1, high[2]);
            wrong(kind, high[0], high[1], high[2] + 1);
            wrong(kind, Integer.MIN_VALUE, 0, 0);
            wrong(kind, Integer.MAX_VALUE, 0, 0);
        }
        wrong('N', 0, 0, 0);
        wrong('x', 0, 0, 0);
        wrong((char) 0, 0, 0, 0);
        wrong((char) ('n' + 256), 0, 0, 0);
    }

    private static void partiesOfInstructions() {
        QuantityQuarry x = Samples.parties(2);
        Expect.thrown(Expect.INDEX, () -> x.add(-1, 'e', 0, 0, 0));
        Expect.thrown(Expect.INDEX, () -> x.add(2, 'e', 0, 0, 0));
        Expect.thrown(Expect.INDEX, () -> x.add(2, 'z', 9, 9, 9));
        Expect.thrown(Expect.ARGUMENT, () -> x.add(1, 's', 1, 0, -1));
        Expect.thrown(Expect.ARGUMENT, () -> x.add(1, 's', 2, 0, -1));
        Expect.thrown(Expect.ARGUMENT, () -> x.add(1, 'r', 1, 0, 0));
        Expect.thrown(Expect.ARGUMENT, () -> x.add(1, 'r', 2, 0, 0));
        x.addParty();
        Expect.same(0, x.add(1, 's', 2, 0, -1));
        Expect.same(1, x.add(1, 'r', 2, 0, 0));
        Expect.same(0, x.add(0, 'e', 0, 0, 0));
        Expect.same(2, x.add(1, 'r', 0, 0, 0));
    }

    private static void twentyInstructions() {
        QuantityQuarry x = Samples.parties(2);
        for (int i = 0; i < 20; i++) {
            Expect.same(i, x.add(0, 'r', 1, 0, 0));
        }
        Expect.thrown(Expect.STATE, () -> x.add(0, 'r', 1, 0, 0));
        Expect.thrown(Expect.ARGUMENT, () -> x.add(0, 'r', 0, 0, 0));
        Expect.same(0, x.add(1, 'e', 0, 0, 0));
        Expect.same(1, x.addCase(0, 19, 0, -1, 0));
        Expect.thrown(Expect.INDEX, () -> x.addCase(0, 20, 0, -1, 0));
    }

    private static void addCase() {
        QuantityQuarry x = Samples.parties(2);
        Samples.program(x, 0, "r 1", "e", "r 1");
        Expect.thrown(Expect.INDEX, () -> x.addCase(-1, 0, 0, 0, 0));
        Expect.thrown(Expect.INDEX, () -> x.addCase(2, 0, 0, 0, 0));
        Expect.thrown(Expect.INDEX, () -> x.addCase(0, -1, 0, 0, 0));
        Expect.thrown(Expect.INDEX, () -> x.addCase(0, 3, 0, 0, 0));
        Expect.thrown(Expect.INDEX, () -> x.addCase(1, 0, 0, 0, 0));
        Expect.thrown(Expect.INDEX, () -> x.addCase(0, 3, 9, 9, 99));
        Expect.thrown(Expect.ARGUMENT, () -> x.addCase(0, 1, 0, 0, 0));
        Expect.thrown(Expect.ARGUMENT, () -> x.addCase(0, 0, -1, 0, 0));
        Expect.thrown(Expect.ARGUMENT, () -> x.addCase(0, 0, 6, 0, 0));
        Expect.thrown(Expect.ARGUMENT, () -> x.addCase(0, 0, 0, -2, 0));
        Expect.thrown(Expect.ARGUMENT, () -> x.addCase(0, 0, 0, 4, 0));
        Expect.thrown(Expect.ARGUMENT, () -> x.addCase(0, 0, 0, 0, -1));
        Expect.thrown(Expect.ARGUMENT, () -> x.addCase(0, 0, 0, 0, 20));
        for (int label = 0; label < 6; label++) {
            int here = label;
            Expect.same(label + 1, x.addCase(0, 0, label, label % 5 - 1, label % 2 * 19));
            Expect.thrown(Expect.STATE, () -> x.addCase(0, 0, here, 0, 0));
        }
        Expect.thrown(Expect.ARGUMENT, () -> x.addCase(0, 0, 0, 0, 20));
        Expect.same(1, x.addCase(0, 2, 5, 3, 19));
    }

    private static void setNumber() {
        QuantityQuarry x = Samples.ended(2);
        Samples.program(x, 0, "d 0 0", "d 1 0");
        Expect.thrown(Expect.INDEX, () -> x.setNumber(-1, 0, 0));
        Expect.thrown(Expect.INDEX, () -> x.setNumber(2, 0, 0));
        Expect.thrown(Expect.INDEX, () -> x.setNumber(2, 5, 10));
        Expect.thrown(Expect.ARGUMENT, () -> x.setNumber(0, -1, 0));
        Expect.thrown(Expect.ARGUMENT, () -> x.setNumber(0, 2, 0));
        Expect.thrown(Expect.ARGUMENT, () -> x.setNumber(0, 0, -1));
        Expect.thrown(Expect.ARGUMENT, () -> x.setNumber(0, 0, 10));
        Expect.same(0, x.setNumber(0, 0, 9));
        Expect.same(9, x.setNumber(0, 0, 3));
        Expect.same(0, x.setNumber(0, 1, 4));
        Expect.same(0, x.setNumber(1, 1, 5));
        x.begin(1);
        Expect.same(3, x.number(0, 0));
        Expect.same(4, x.number(0, 1));
        Expect.same(0, x.number(1, 0));
        Expect.same(5, x.number(1, 1));
        Expect.same("dd", Samples.steps(x, "00"));
        Expect.same(2, x.number(0, 0));
        Expect.same(3, x.number(0, 1));
        x.close();
        Expect.same(3, x.setNumber(0, 0, 0));
        x.begin(1);
        Expect.same(0, x.number(0, 0));
        Expect.same(4, x.number(0, 1));
    }

    private static void nothingIsToldInARun() {
        QuantityQuarry x = Samples.pingPong();
        x.begin(1);
        Expect.thrown(Expect.STATE, () -> x.add(0, 'e', 0, 0, 0));
        Expect.thrown(Expect.ARGUMENT, () -> x.add(0, 'e', 0, 0, 1));
        Expect.thrown(Expect.INDEX, () -> x.add(2, 'e', 0, 0, 0));
        Expect.thrown(Expect.STATE, () -> x.addCase(0, 3, 0, 0, 0));
        Expect.thrown(Expect.ARGUMENT, () -> x.addCase(0, 3, 0, 0, 20));
        Expect.thrown(Expect.INDEX, () -> x.addCase(0, 7, 0, 0, 0));
        Expect.thrown(Expect.STATE, () -> x.setNumber(0, 0, 1));
        Expect.thrown(Expect.ARGUMENT, () -> x.setNumber(0, 0, 10));
        Expect.thrown(Expect.INDEX, () -> x.setNumber(-1, 0, 1));
        x.close();
        Expect.same(7, x.add(0, 'e', 0, 0, 0));
        Expect.same(2, x.addCase(0, 3, 0, 0, 0));
        Expect.same(0, x.setNumber(0, 0, 1));
    }

    private static void whatThrowsChangesNothing() {
        QuantityQuarry x = Samples.parties(2);
        Expect.thrown(Expect.ARGUMENT, () -> x.add(0, 'r', 1, 0, 1));
        Expect.same(0, x.add(0, 'r', 1, 0, 0));
        Expect.thrown(Expect.ARGUMENT, () -> x.addCase(0, 0, 2, 0, 20));
        Expect.same(1, x.addCase(0, 0, 2, 0, 1));
        Expect.thrown(Expect.STATE, () -> x.addCase(0, 0, 2, -1, 2));
        Expect.thrown(Expect.ARGUMENT, () -> x.setNumber(0, 1, 10));
        Expect.same(0, x.setNumber(0, 1, 9));
        Samples.nodes(x, "10", "e");
        Samples.branches(x, "0 2+ 1");
        x.setStart(0);
        Expect.same('i', x.fault(0));
        Expect.same(1, x.faultAt(0));
        Expect.same(2, x.places(0));
    }
}
