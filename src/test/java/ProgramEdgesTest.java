import java.util.function.Supplier;

/** The boundary cases of promises 12 to 14: instructions, cases and numbers. */
public final class ProgramEdgesTest {
    private static final int MIN = Integer.MIN_VALUE;
    private static final int MAX = Integer.MAX_VALUE;
    private static final int[] NEAR = {MIN, -65536, -2, -1, 0, 1, 2, 3, 4, 5, 6, 9, 10, 18, 19, 20, 21, 32, 256, MAX};

    public static void main(String[] args) {
        eachKindOfAllSigns();
        eachNumberOfEachKind();
        otherParties();
        addRefuses();
        twentyInstructions();
        addCaseParties();
        addCaseArguments();
        addCaseStates();
        sixCases();
        casesOfEachInstruction();
        setNumberRefuses();
        setNumberValues();
        Expect.finish();
    }

    /** One object after another, so that none is called too often, with a count of what was added. */
    private static final class Adder {
        private final Supplier<QuantityQuarry> made;
        private final int party;
        private QuantityQuarry x;
        private int calls;
        private int added;

        Adder(Supplier<QuantityQuarry> made, int party) {
            this.made = made;
            this.party = party;
        }

        void add(boolean isRight, char kind, int a, int b, int c) {
            if (x == null || added == 20 || calls == 400) {
                x = made.get();
                calls = 0;
                added = 0;
            }
            calls++;
            if (isRight) {
                Expect.same(added, x.add(party, kind, a, b, c));
                added++;
            } else {
                QuantityQuarry asked = x;
                Expect.thrown(Expect.ARGUMENT, () -> asked.add(party, kind, a, b, c));
            }
        }
    }

    /** Promise 12: 'no such kind', for each char that there is, from the lowest to the highest. */
    private static void eachKindOfAllSigns() {
        Adder adder = new Adder(() -> Samples.parties(2), 1);
        for (int sign = 0; sign <= Character.MAX_VALUE; sign++) {
            adder.add("numjdsre".indexOf(sign) >= 0, (char) sign, 0, 0, 0);
        }
    }

    /** Promise 12: 'names 0 to 3, numbers 0 and 1, instructions 0 to 19, labels 0 to 5, .. and 0 for all others'. */
    private static void eachNumberOfEachKind() {
        Adder adder = new Adder(() -> Samples.parties(4), 3);
        for (int a : NEAR) {
            for (int b : NEAR) {
                for (int c : NEAR) {
                    boolean is0 = b == 0 && c == 0;
                    boolean isName = Ints.isInside(a, 0, 3);
                    boolean isParty = a == 0 || a == 1 || a == 2;
                    adder.add(is0 && isName, 'n', a, b, c);
                    adder.add(is0 && isName, 'u', a, b, c);
                    adder.add(isName && Ints.isInside(b, 0, 3) && c == 0, 'm', a, b, c);
                    adder.add(is0 && Ints.isInside(a, 0, 19), 'j', a, b, c);
                    adder.add((a == 0 || a == 1) && Ints.isInside(b, 0, 19) && c == 0, 'd', a, b, c);
                    adder.add(isParty && Ints.isInside(b, 0, 5) && Ints.isInside(c, -1, 3), 's', a, b, c);
                    adder.add(is0 && isParty, 'r', a, b, c);
                    adder.add(is0 && a == 0, 'e', a, b, c);
                    adder.add(false, 'x', a, b, c);
                }
            }
        }
    }

    /** Promise 12: 'other parties that there are', with each number of parties. */
    private static void otherParties() {
        for (int parties = 1; parties <= 4; parties++) {
            int count = parties;
            for (int party = 0; party < count; party++) {
                Adder adder = new Adder(() -> Samples.parties(count), party);
                for (int other : NEAR) {
                    boolean isOther = Ints.isInside(other, 0, count - 1) && other != party;
                    adder.add(isOther, 's', other, 5, -1);
                    adder.add(isOther, 's', other, 0, 3);
                    adder.add(isOther, 'r', other, 0, 0);
                }
            }
        }
    }

    private static QuantityQuarry twentyOf(int party, QuantityQuarry x) {
        for (int i = 0; i < 20; i++) {
            x.add(party, 'r', 1 - party, 0, 0);
        }
        return x;
    }

    /** Promise 12: each refused call, alone and where one that is listed later holds too. */
    private static void addRefuses() {
        World open = new World(() -> Samples.ended(2));
        World full = new World(() -> twentyOf(1, Samples.ended(2)));
        World[] worlds = {open, full, open.begun(), full.begun()};
        for (int wrong : Ints.outside(0, 1)) {
            World.allRefuse(Expect.INDEX, x -> x.add(wrong, 'e', 0, 0, 0), worlds);
            World.allRefuse(Expect.INDEX, x -> x.add(wrong, 'z', 0, 0, 0), worlds);
            World.allRefuse(Expect.INDEX, x -> x.add(wrong, 's', wrong, -1, -2), worlds);
        }
        for (char kind : new char[] {0, 'a', 'N', 'z', 127, 256 + 'e', Character.MAX_VALUE}) {
            World.allRefuse(Expect.ARGUMENT, x -> x.add(1, kind, 0, 0, 0), worlds);
        }
        World.allRefuse(Expect.ARGUMENT, x -> x.add(1, 'n', 4, 0, 0), worlds);
        World.allRefuse(Expect.ARGUMENT, x -> x.add(1, 'u', -1, 0, 0), worlds);
        World.allRefuse(Expect.ARGUMENT, x -> x.add(1, 'm', 0, 4, 0), worlds);
        World.allRefuse(Expect.ARGUMENT, x -> x.add(1, 'j', 20, 0, 0), worlds);
        World.allRefuse(Expect.ARGUMENT, x -> x.add(1, 'd', 0, 20, 0), worlds);
        World.allRefuse(Expect.ARGUMENT, x -> x.add(1, 's', 1, 0, 0), worlds);
        World.allRefuse(Expect.ARGUMENT, x -> x.add(1, 's', 0, 6, 0), worlds);
        World.allRefuse(Expect.ARGUMENT, x -> x.add(1, 's', 0, 0, -2), worlds);
        World.allRefuse(Expect.ARGUMENT, x -> x.add(1, 'r', 2, 0, 0), worlds);
        World.allRefuse(Expect.ARGUMENT, x -> x.add(1, 'e', 0, 0, 1), worlds);
        World[] closed = {full, open.begun(), full.begun()};
        for (String right : new String[] {"n 0", "u 3", "m 3 3", "j 19", "d 1 19", "s 0 5 3", "s 0 0 -1", "r 0", "e"}) {
            World.allRefuse(Expect.STATE, x -> {
                Samples.program(x, 1, right);
                return right;
            }, closed);
        }
        full.answers(0, x -> x.add(0, 'e', 0, 0, 0));
        full.begun().refuses(Expect.STATE, x -> x.add(0, 'e', 0, 0, 0));
        World bare = new World(() -> Samples.parties(0));
        for (int wrong : Ints.outside(0, -1)) {
            bare.refuses(Expect.INDEX, x -> x.add(wrong, 'e', 0, 0, 0));
        }
    }

    /** Promise 12: instructions 0 to 19, of each party on its own. */
    private static void twentyInstructions() {
        QuantityQuarry x = Samples.parties(4);
        for (int i = 0; i < 20; i++) {
            for (int party = 0; party < 4; party++) {
                Expect.same(i, x.add(party, 'j', i, 0, 0));
            }
        }
        for (int party = 0; party < 4; party++) {
            int full = party;
            Expect.thrown(Expect.STATE, () -> x.add(full, 'j', 0, 0, 0));
            Expect.thrown(Expect.INDEX, () -> x.addCase(full, 20, 0, 0, 0));
            Expect.thrown(Expect.ARGUMENT, () -> x.addCase(full, 19, 0, 0, 0));
        }
    }

    /** Party 0 has a case for the label 2 of instruction 0, instruction 1 ends; party 1 has no instruction. */
    private static QuantityQuarry twoInstructions() {
        QuantityQuarry x = Samples.ended(2);
        Samples.program(x, 0, "r 1", "? 2 0 1", "e");
        return x;
    }

    /** Promise 13: parties and instructions that there are not, ahead of all else. */
    private static void addCaseParties() {
        World open = new World(ProgramEdgesTest::twoInstructions);
        World full = new World(() -> twentyOf(0, Samples.ended(2)));
        for (World world : new World[] {open, open.begun(), full, full.begun()}) {
            for (int wrong : Ints.outside(0, 1)) {
                world.refuses(Expect.INDEX, x -> x.addCase(wrong, 0, 0, 0, 0));
                world.refuses(Expect.INDEX, x -> x.addCase(wrong, 0, 6, 4, 20));
            }
            for (int none : new int[] {MIN, -1, 0, 1, 19, 20, MAX}) {
                world.refuses(Expect.INDEX, x -> x.addCase(1, none, 0, 0, 0));
            }
        }
        for (World world : new World[] {open, open.begun()}) {
            for (int wrong : Ints.outside(0, 1)) {
                world.refuses(Expect.INDEX, x -> x.addCase(0, wrong, 0, 0, 0));
                world.refuses(Expect.INDEX, x -> x.addCase(0, wrong, 2, 0, 0));
                world.refuses(Expect.INDEX, x -> x.addCase(0, wrong, 0, -2, 20));
            }
        }
        for (int wrong : Ints.outside(0, 19)) {
            World.allRefuse(Expect.INDEX, x -> x.addCase(0, wrong, 0, 0, 0), full, full.begun());
        }
        full.answers(1, x -> x.addCase(0, 19, 5, 3, 19));
        full.answers(1, x -> x.addCase(0, 0, 0, -1, 0));
    }

    /** Promise 13: what does not receive, and numbers out of range, ahead of a case that there is, and of a run. */
    private static void addCaseArguments() {
        World open = new World(ProgramEdgesTest::twoInstructions);
        World[] worlds = {open, open.begun()};
        for (String other : new String[] {"n 0", "u 0", "m 0 1", "j 0", "d 0 0", "s 1 0 0", "e"}) {
            World world = new World(() -> {
                QuantityQuarry x = Samples.ended(2);
                Samples.program(x, 0, other);
                return x;
            });
            World.allRefuse(Expect.ARGUMENT, x -> x.addCase(0, 0, 0, 0, 0), world, world.begun());
        }
        for (int label : new int[] {0, 2}) {
            for (int wrong : Ints.outside(0, 5)) {
                World.allRefuse(Expect.ARGUMENT, x -> x.addCase(0, 0, wrong, 0, 0), worlds);
            }
            for (int wrong : Ints.outside(-1, 3)) {
                World.allRefuse(Expect.ARGUMENT, x -> x.addCase(0, 0, label, wrong, 0), worlds);
            }
            for (int wrong : Ints.outside(0, 19)) {
                World.allRefuse(Expect.ARGUMENT, x -> x.addCase(0, 0, label, 0, wrong), worlds);
                World.allRefuse(Expect.ARGUMENT, x -> x.addCase(0, 1, label, 0, wrong), worlds);
            }
        }
        for (int label : Ints.inside(0, 5)) {
            for (int name : Ints.inside(-1, 3)) {
                for (int next : new int[] {0, 1, 18, 19}) {
                    if (label != 2) {
                        Expect.same(2, twoInstructions().addCase(0, 0, label, name, next));
                    }
                }
            }
        }
    }

    /** Promise 13: a case for the label, and a run, alone and both. */
    private static void addCaseStates() {
        World open = new World(ProgramEdgesTest::twoInstructions);
        for (int name : Ints.inside(-1, 3)) {
            World.allRefuse(Expect.STATE, x -> x.addCase(0, 0, 2, name, 19), open, open.begun());
        }
        for (int label : Ints.inside(0, 5)) {
            open.begun().refuses(Expect.STATE, x -> x.addCase(0, 0, label, 0, 0));
        }
        new World(() -> {
            QuantityQuarry x = twoInstructions();
            x.begin(1);
            x.close();
            return x;
        }).answers(2, x -> x.addCase(0, 0, 5, 3, 19));
    }

    /** 'at most 6 cases, each for a label': the sixth is added, then each label has one. */
    private static void sixCases() {
        QuantityQuarry x = Samples.parties(2);
        Samples.program(x, 0, "r 1", "r 1");
        int[] order = {5, 0, 3, 1, 4, 2};
        for (int i = 0; i < 6; i++) {
            Expect.same(i + 1, x.addCase(0, 0, order[i], -1, 0));
        }
        for (int label : Ints.inside(0, 5)) {
            Expect.thrown(Expect.STATE, () -> x.addCase(0, 0, label, -1, 0));
            Expect.thrown(Expect.STATE, () -> x.addCase(0, 0, label, 3, 19));
        }
        Expect.thrown(Expect.ARGUMENT, () -> x.addCase(0, 0, 6, -1, 0));
        Expect.same(1, x.addCase(0, 1, 2, -1, 0));
    }

    /** The name and the next instruction of a case are kept for each instruction and label. */
    private static void casesOfEachInstruction() {
        for (int instruction : Ints.inside(0, 19)) {
            for (int label : Ints.inside(0, 5)) {
                QuantityQuarry x = Samples.ended(2);
                for (int i : Ints.inside(0, 19)) {
                    x.add(0, i == instruction ? 'r' : 'j', i == instruction ? 1 : instruction, 0, 0);
                }
                x.addCase(0, instruction, label, (instruction + label) % 4, 19 - instruction);
                Samples.program(x, 1, "n 1", "s 0 " + label + " 1", "e");
                x.begin(1);
                Samples.steps(x, instruction == 0 ? "11" : "110");
                Expect.same(instruction, x.at(0));
                Expect.same('d', x.step(0));
                Expect.same(19 - instruction, x.at(0));
                Expect.same(0, x.cellIn(0, (instruction + label) % 4));
            }
        }
    }

    /** Promise 14: each refused call, alone and where one that is listed later holds too. */
    private static void setNumberRefuses() {
        World open = new World(() -> {
            QuantityQuarry x = Samples.ended(2);
            x.setNumber(1, 0, 9);
            x.setNumber(1, 1, 4);
            return x;
        });
        World[] worlds = {open, open.begun()};
        for (int wrong : Ints.outside(0, 1)) {
            World.allRefuse(Expect.INDEX, x -> x.setNumber(wrong, 0, 0), worlds);
            World.allRefuse(Expect.INDEX, x -> x.setNumber(wrong, 2, 0), worlds);
            World.allRefuse(Expect.INDEX, x -> x.setNumber(wrong, 0, 10), worlds);
            World.allRefuse(Expect.ARGUMENT, x -> x.setNumber(1, wrong, 0), worlds);
            World.allRefuse(Expect.ARGUMENT, x -> x.setNumber(1, wrong, 10), worlds);
        }
        for (int wrong : Ints.outside(0, 9)) {
            World.allRefuse(Expect.ARGUMENT, x -> x.setNumber(1, 0, wrong), worlds);
            World.allRefuse(Expect.ARGUMENT, x -> x.setNumber(1, 1, wrong), worlds);
            World.allRefuse(Expect.INDEX, x -> x.setNumber(2, 1, wrong), worlds);
        }
        for (int value : Ints.inside(0, 9)) {
            worlds[1].refuses(Expect.STATE, x -> x.setNumber(0, 0, value));
            worlds[1].refuses(Expect.STATE, x -> x.setNumber(1, 1, value));
        }
    }

    /** Promise 14: each number of each party has each value, 0 at first, and keeps it over runs. */
    private static void setNumberValues() {
        QuantityQuarry x = Samples.ended(4);
        for (int party = 0; party < 4; party++) {
            Samples.program(x, party, "d 0 1", "d 1 0");
            for (int number = 0; number < 2; number++) {
                Expect.same(0, x.setNumber(party, number, 0));
                Expect.same(0, x.setNumber(party, number, 9));
                Expect.same(9, x.setNumber(party, number, 2 * party + number));
            }
        }
        for (int run = 0; run < 2; run++) {
            x.begin(1);
            for (int party = 0; party < 4; party++) {
                Expect.same(2 * party, x.number(party, 0));
                Expect.same(2 * party + 1, x.number(party, 1));
                Expect.same("dd", Samples.steps(x, "" + party + party));
                Expect.same(Math.max(0, 2 * party - 1), x.number(party, 0));
                Expect.same(2 * party, x.number(party, 1));
            }
            x.close();
        }
        for (int party = 0; party < 4; party++) {
            Expect.same(2 * party, x.setNumber(party, 0, 9));
            Expect.same(2 * party + 1, x.setNumber(party, 1, 0));
        }
    }
}
