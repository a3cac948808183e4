/** The boundary cases of promises 15 to 19: each reason of a wrong place, alone and with others, and the limits. */
public final class CheckEdgesTest {
    private static final World.OfParty[] OF_CHECK = {QuantityQuarry::fault, QuantityQuarry::faultAt,
        QuantityQuarry::places, QuantityQuarry::idleCases};

    public static void main(String[] args) {
        wrongParties();
        notWhole();
        refusedParties();
        noFaultAtARightProgram();
        firstPlace();
        instructionsThatThereAreNot();
        namesOfEachReason();
        sendReasons();
        receiveReasons();
        endReasons();
        labelByLabel();
        eachPlaceOnce();
        manyPlaces();
        idleCases();
        idleCasesOfEachLabel();
        changesOfTheLanguage();
        Expect.finish();
    }

    /** Wrong parties, with each number of them, ahead of all else; right ones have no instruction. */
    private static void wrongParties() {
        World.refuseWrongParties(OF_CHECK);
        World.refuseWrongParties((x, party) -> x.isAdmitted(party));
        for (int parties = 1; parties <= 4; parties++) {
            int count = parties;
            World whole = new World(() -> Samples.ended(count));
            for (int right = 0; right < count; right++) {
                int party = right;
                whole.tells(false, x -> x.isAdmitted(party));
                whole.begun().tells('i', x -> x.fault(party));
            }
        }
    }

    /** Party 2 is refused, parties 0 and 2 have programs that would be right. */
    private static QuantityQuarry refused() {
        QuantityQuarry x = Samples.refusedButForAStart(3);
        Samples.program(x, 0, "s 1 0 -1", "e");
        Samples.program(x, 2, "e");
        return x;
    }

    /** No start, or a message without a branch, ahead of a party that is refused, or is right. */
    private static void notWhole() {
        World noStart = new World(CheckEdgesTest::refused);
        World noBranch = new World(() -> {
            QuantityQuarry x = refused();
            x.setStart(0);
            x.addMessage(0, 1);
            return x;
        });
        World ends = new World(() -> {
            QuantityQuarry x = Samples.ended(3);
            Samples.program(x, 0, "e");
            x.addMessage(0, 1);
            return x;
        });
        for (int party = 0; party < 3; party++) {
            int asked = party;
            World.allRefuse(Expect.STATE, x -> x.isAdmitted(asked), noStart, noBranch, ends);
            for (World.OfParty call : OF_CHECK) {
                World.allRefuse(Expect.STATE, x -> call.on(x, asked), noStart, noBranch, ends);
            }
        }
    }

    /** A refused party has no check, also with a program that would be right; it is not admitted. */
    private static void refusedParties() {
        World world = new World(() -> {
            QuantityQuarry x = refused();
            x.setStart(0);
            return x;
        });
        for (World asked : new World[] {world, world.begun()}) {
            for (World.OfParty call : OF_CHECK) {
                asked.refuses(Expect.UNSUPPORTED, x -> call.on(x, 2));
            }
            asked.answers(false, x -> x.isAdmitted(2));
            asked.answers('-', x -> x.fault(0));
            asked.answers(true, x -> x.isAdmitted(0));
            asked.answers('i', x -> x.fault(1));
        }
    }

    /** 'Throws NoSuchElementException if no place is wrong', of each of 4 parties. */
    private static void noFaultAtARightProgram() {
        World world = new World(() -> {
            QuantityQuarry x = Samples.ended(4);
            for (int party = 0; party < 4; party++) {
                x.add(party, 'e', 0, 0, 0);
            }
            return x;
        });
        for (int party = 0; party < 4; party++) {
            int asked = party;
            for (World right : new World[] {world, world.begun()}) {
                right.refuses(Expect.ELEMENT, x -> x.faultAt(asked));
                right.answers('-', x -> x.fault(asked));
                right.answers(true, x -> x.isAdmitted(asked));
                right.answers(1, x -> x.places(asked));
                right.answers(0, x -> x.idleCases(asked));
            }
        }
    }

    /** Party 0 sends party 1 label 0 or 5 with a cell, or label 3 without one; then all is over. */
    private static QuantityQuarry threeLabels() {
        QuantityQuarry x = Samples.parties(3);
        Samples.nodes(x, "01", "e");
        Samples.branches(x, "0 0+ 1", "0 5+ 1", "0 3 1");
        x.setStart(0);
        return x;
    }

    /** What is told of a program of a party of threeLabels: reason, instruction, places, idle cases. */
    private static String told(int party, String... program) {
        QuantityQuarry x = threeLabels();
        Samples.program(x, party, program);
        return Samples.check(x, party);
    }

    /** 'of a party without instructions, the first place is wrong, which is one place that was looked at'. */
    private static void firstPlace() {
        for (int party = 0; party < 3; party++) {
            Expect.same("i 0 1 0", told(party));
        }
        Expect.same("- 1 0", told(2, "e"));
        Expect.same("- 1 0", told(2, "j 0"));
        Expect.same("h 0 1 0", told(2, "u 0"));
    }

    /** 'also of one that there is not': the one behind the last one, up to 20, and each one that is told. */
    private static void instructionsThatThereAreNot() {
        for (int count = 1; count <= 20; count++) {
            QuantityQuarry x = Samples.ended(1);
            for (int i = 0; i < count; i++) {
                x.add(0, i % 2 == 0 ? 'n' : 'u', 3, 0, 0);
            }
            Expect.same("i " + count + " " + (count + 1) + " 0", Samples.check(x, 0));
        }
        for (int target = 1; target < 20; target++) {
            Expect.same("i " + target + " 2 0", told(2, "j " + target));
            Expect.same("i 1 2 0", told(2, "d 1 " + target));
            if (target > 1) {
                Expect.same("i " + target + " 3 0", told(2, "d 0 " + target, "e"));
            }
            Expect.same("i " + target + " 2 0", told(1, "r 0", "? 0 0 " + target, "? 3 -1 0", "? 5 3 0"));
        }
        QuantityQuarry full = Samples.ended(1);
        for (int i = 0; i < 19; i++) {
            full.add(0, 'j', i + 1, 0, 0);
        }
        full.add(0, 'e', 0, 0, 0);
        Expect.same("- 20 0", Samples.check(full, 0));
    }

    /** 'h' for each name, held and not, for each instruction that needs one or needs it free. */
    private static void namesOfEachReason() {
        for (int name = 0; name < 4; name++) {
            int other = (name + 1) % 4;
            Expect.same("- 3 0", told(2, "n " + name, "u " + name, "e"));
            Expect.same("h 1 2 0", told(2, "n " + name, "n " + name, "e"));
            Expect.same("h 0 1 0", told(2, "u " + name, "e"));
            Expect.same("h 1 2 0", told(2, "n " + other, "u " + name, "e"));
            Expect.same("- 4 0", told(2, "n " + name, "m " + name + " " + other, "u " + other, "e"));
            Expect.same("h 2 3 0", told(2, "n " + name, "m " + name + " " + other, "u " + name, "e"));
            Expect.same("h 0 1 0", told(2, "m " + name + " " + other, "e"));
            Expect.same("h 1 2 0", told(2, "n " + other, "m " + name + " " + other, "e"));
            Expect.same("h 2 3 0", told(2, "n " + name, "n " + other, "m " + name + " " + other, "e"));
            Expect.same("h 1 2 0", told(2, "n " + name, "m " + name + " " + name, "e"));
            Expect.same("h 0 1 0", told(2, "m " + name + " " + name, "e"));
            Expect.same("k 1 2 0", told(2, "n " + name, "e"));
            Expect.same("- 3 0", told(0, "n " + name, "s 1 5 " + name, "e"));
            Expect.same("h 0 1 0", told(0, "s 1 5 " + name, "e"));
            Expect.same("h 1 2 0", told(0, "n " + other, "s 1 5 " + name, "e"));
            Expect.same("h 2 3 0", told(0, "n " + name, "s 1 5 " + name, "u " + name));
            String[] into = {"r 0", "? 0 " + name + " 3", "? 3 -1 4", "? 5 " + name + " 3", "u " + name, "e"};
            Expect.same("h 3 4 0", told(1, "d 0 2", "j 2", into[0], into[1], "? 3 -1 0", into[3], "u " + other));
            Expect.same("- 3 0", told(1, into[0], "? 0 " + name + " 1", "? 3 -1 2", "? 5 " + name + " 1",
                    "u " + name, "e"));
            Expect.same("h 1 2 3", told(1, "n " + name, into[0], into[1], into[2], into[3], into[4], into[5]));
            Expect.same("k 1 2 1", told(1, into[0], "? 0 " + name + " 1", "? 3 -1 1", "? 5 " + name + " 1", "e",
                    "r 0", "? 0 -1 0"));
        }
    }

    /** Of each two reasons to send the one that is listed first; the last label and partner too. */
    private static void sendReasons() {
        Expect.same("- 2 0", told(0, "s 1 3 -1", "e"));
        Expect.same("- 3 0", told(0, "n 3", "s 1 0 3", "e"));
        Expect.same("h 0 1 0", told(0, "s 2 5 1", "e"));
        Expect.same("h 0 1 0", told(0, "s 1 1 1", "e"));
        Expect.same("h 0 1 0", told(0, "s 1 3 1", "e"));
        Expect.same("p 0 1 0", told(0, "s 2 1 -1", "e"));
        Expect.same("p 0 1 0", told(0, "s 2 0 -1", "e"));
        Expect.same("p 0 1 0", told(0, "s 2 3 -1", "e"));
        Expect.same("p 0 1 0", told(1, "s 0 3 -1", "e"));
        Expect.same("p 0 1 0", told(2, "s 0 3 -1", "e"));
        for (int label : new int[] {1, 2, 4}) {
            Expect.same("l 0 1 0", told(0, "s 1 " + label + " -1", "e"));
            Expect.same("l 1 2 0", told(0, "n 0", "s 1 " + label + " 0", "e"));
        }
        Expect.same("c 0 1 0", told(0, "s 1 0 -1", "e"));
        Expect.same("c 0 1 0", told(0, "s 1 5 -1", "e"));
        Expect.same("c 1 2 0", told(0, "n 0", "s 1 3 0", "e"));
        Expect.same("p 1 2 0", told(0, "s 1 3 -1", "s 1 3 -1", "e"));
    }

    /** Of each two reasons to receive of one label the one that is listed first. */
    private static void receiveReasons() {
        String[] right = {"r 0", "? 0 1 1", "? 3 -1 2", "? 5 1 1", "u 1", "e"};
        Expect.same("- 3 0", told(1, right));
        Expect.same("p 0 1 3", told(1, "r 2", right[1], right[2], right[3], "u 1", "e"));
        Expect.same("p 0 1 0", told(1, "r 2"));
        Expect.same("p 0 1 1", told(1, "r 2", "? 0 -1 0"));
        Expect.same("p 1 2 1", told(1, "n 1", "r 2", "? 0 1 0"));
        Expect.same("p 0 1 0", told(0, "r 1"));
        Expect.same("p 0 1 0", told(2, "r 0"));
        Expect.same("o 0 1 2", told(1, "r 0", right[2], right[3]));
        Expect.same("o 0 1 2", told(1, "r 0", right[1], right[3], "u 1", "e"));
        Expect.same("o 0 1 2", told(1, "r 0", right[1], right[2], "u 1", "e"));
        Expect.same("o 0 1 3", told(1, "r 0", "? 1 -1 0", "? 2 -1 0", "? 4 -1 0"));
        Expect.same("c 0 1 3", told(1, "r 0", "? 0 -1 1", right[2], right[3]));
        Expect.same("c 0 1 3", told(1, "r 0", right[1], "? 3 1 1", right[3]));
        Expect.same("c 0 1 3", told(1, "r 0", right[1], right[2], "? 5 -1 1"));
        Expect.same("c 1 2 3", told(1, "n 2", "r 0", right[1], "? 3 2 1", right[3]));
        Expect.same("h 1 2 3", told(1, "n 2", "r 0", "? 0 2 1", right[2], right[3]));
        Expect.same("h 1 2 3", told(1, "n 2", "r 0", right[1], right[2], "? 5 2 1"));
    }

    /** 'q' ahead of 'k', each alone and both. */
    private static void endReasons() {
        Expect.same("q 0 1 0", told(0, "e"));
        Expect.same("q 0 1 0", told(1, "e"));
        Expect.same("- 1 0", told(2, "e"));
        Expect.same("k 1 2 0", told(2, "n 0", "e"));
        Expect.same("q 1 2 0", told(0, "n 0", "e"));
        Expect.same("k 2 3 0", told(0, "n 0", "s 1 3 -1", "e"));
        Expect.same("- 2 0", told(0, "s 1 3 -1", "e"));
    }

    /** 'label by label': whatever is wrong with a lower label is told ahead of all that is wrong with a higher one. */
    private static void labelByLabel() {
        String[] lower = {"? 1 -1 0", "? 0 -1 0", "? 0 2 0"};
        String[] higher = {"? 4 -1 0", "? 3 2 0"};
        for (int low = 0; low < 3; low++) {
            for (int high = 0; high < 2; high++) {
                String due = "och".charAt(low) + " 1 2 2";
                Expect.same(due, told(1, "n 2", "r 0", lower[low], higher[high]));
                Expect.same(due, told(1, "n 2", "r 0", higher[high], lower[low]));
            }
        }
        Expect.same("o 1 2 2", told(1, "n 2", "r 0", "? 0 1 0", "? 5 2 0"));
        Expect.same("c 1 2 3", told(1, "n 2", "r 0", "? 0 1 0", "? 3 2 0", "? 5 2 0"));
        Expect.same("h 1 2 3", told(1, "n 2", "r 0", "? 0 1 0", "? 3 -1 0", "? 5 2 0"));
    }

    /** 'Places are looked at in the order in which they are found, each once'. */
    private static void eachPlaceOnce() {
        Expect.same("- 1 0", told(2, "j 0"));
        Expect.same("- 2 0", told(2, "d 0 0", "j 0"));
        Expect.same("- 2 0", told(2, "d 0 1", "j 0"));
        Expect.same("- 3 0", told(2, "d 0 2", "d 1 0", "j 1"));
        Expect.same("h 1 2 0", told(2, "d 0 2", "u 1", "u 0"));
        Expect.same("h 2 3 0", told(2, "d 0 2", "j 3", "u 0"));
        Expect.same("- 5 0", told(2, "n 1", "d 0 3", "j 1", "u 1", "e"));
        Expect.same("- 6 0", told(2, "d 0 3", "n 1", "u 1", "d 1 5", "j 0", "e"));
    }

    /**
     * Party 2 is in each of 40 states, at each of instructions 8 to 19, with each set of names, behind 30 places
     * that lead there: 30 + 12 * 40 * 16 places.
     */
    private static void manyPlaces() {
        QuantityQuarry x = Samples.cycles(true, 3, 13, false);
        Expect.same(40, x.states(2));
        for (int name = 0; name < 4; name++) {
            Samples.program(x, 2, "d 0 " + (2 * name + 2), "n " + name);
        }
        for (int i = 8; i < 19; i++) {
            x.add(2, 'j', i + 1, 0, 0);
        }
        Samples.program(x, 2, "r 1", "? 5 -1 8", "? 0 0 8");
        Expect.same("- 7710 1", Samples.check(x, 2));
        Expect.same((7710.0 + 1.0 + 1.0) / 3.0, x.meanPlaces());
        Expect.same(1.0f / 3.0f, x.admittedShare());
    }

    /** 6 cases of each of 20 instructions: no case is taken, one is, or three of each instruction are. */
    private static void idleCases() {
        Expect.same("p 0 1 120", Samples.check(allCases(1, "0 5 1"), 1));
        Expect.same("p 1 2 119", Samples.check(allCases(0, "0 5 1"), 1));
        Expect.same("- 20 60", Samples.check(allCases(0, "0 5 0", "0 0 0", "0 3 0"), 1));
        QuantityQuarry x = Samples.ended(2);
        for (int i = 0; i < 6; i++) {
            Samples.program(x, 1, "r 0");
            Expect.same(i, x.idleCases(1));
            x.addCase(1, i, i, 3, 19);
            Expect.same(i + 1, x.idleCases(1));
        }
    }

    /** Party 1 has 20 instructions that receive, each with a case for each label, which leads to the next one. */
    private static QuantityQuarry allCases(int start, String... branches) {
        QuantityQuarry x = Samples.parties(2);
        Samples.nodes(x, "01", "e");
        Samples.branches(x, branches);
        x.setStart(start);
        for (int i = 0; i < 20; i++) {
            x.add(1, 'r', 0, 0, 0);
            for (int label = 0; label < 6; label++) {
                x.addCase(1, i, label, -1, (i + 1) % 20);
            }
        }
        return x;
    }

    /** A case is idle unless its label is one of the state; of a wrong place no case is taken, not even a right one. */
    private static void idleCasesOfEachLabel() {
        for (int label : Ints.inside(0, 5)) {
            QuantityQuarry x = Samples.parties(2);
            Samples.nodes(x, "01", "e");
            x.addBranch(0, label, false, 1);
            x.setStart(0);
            Samples.program(x, 1, "r 0", "? 0 -1 1", "? 1 -1 1", "? 2 -1 1", "? 3 -1 1", "? 4 -1 1", "? 5 -1 1", "e");
            Expect.same("- 2 5", Samples.check(x, 1));
            x.addBranch(0, (label + 1) % 6, true, 1);
            Expect.same("c 0 1 6", Samples.check(x, 1));
        }
    }

    /** Each change of the protocol or of the program is seen, also one that leads back. */
    private static void changesOfTheLanguage() {
        QuantityQuarry x = Samples.ended(2);
        Expect.same("i 0 1 0", Samples.check(x, 0));
        x.add(0, 's', 1, 0, -1);
        Expect.same("p 0 1 0", Samples.check(x, 0));
        x.addMessage(0, 1);
        x.addBranch(1, 0, false, 0);
        Expect.same("p 0 1 0", Samples.check(x, 0));
        x.setStart(1);
        Expect.same("i 1 2 0", Samples.check(x, 0));
        x.add(0, 'e', 0, 0, 0);
        Expect.same("- 2 0", Samples.check(x, 0));
        x.setStart(0);
        Expect.same("p 0 1 0", Samples.check(x, 0));
        x.setStart(1);
        Expect.same("- 2 0", Samples.check(x, 0));
        x.addBranch(1, 1, true, 0);
        Expect.same("- 2 0", Samples.check(x, 0));
        x.addParty();
        Expect.same("- 2 0", Samples.check(x, 0));
        Expect.same("i 0 1 0", Samples.check(x, 2));
    }
}
