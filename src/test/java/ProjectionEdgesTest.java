/** The boundary cases of promises 7 to 11: wholeness, each reason of refusal, the limits of states and labels. */
public final class ProjectionEdgesTest {
    /** The calls that are about a state of a party, or about the party alone, also with a state that is wrong. */
    private static final World.OfParty[] OF_STATES = {
        (x, party) -> x.states(party),
        (x, party) -> x.kindOf(party, 0), (x, party) -> x.kindOf(party, -1), (x, party) -> x.kindOf(party, 40),
        (x, party) -> x.partnerOf(party, 0), (x, party) -> x.partnerOf(party, Integer.MAX_VALUE),
        (x, party) -> x.follower(party, 0, 0), (x, party) -> x.follower(party, Integer.MIN_VALUE, 0),
        (x, party) -> x.follower(party, 0, 6), (x, party) -> x.follower(party, 0, -1)};

    public static void main(String[] args) {
        wrongParties();
        notWhole();
        wholeWithEndsAlone();
        refusedForEachReason();
        firstOfTwoReasons();
        reasonsOfLaterStates();
        fortyStates();
        wrongStates();
        endsHaveNoPartner();
        wrongLabels();
        labelsWithAndWithoutCell();
        Expect.finish();
    }

    /** Wrong parties, with each number of them, ahead of all else; right ones are not refused where no message is. */
    private static void wrongParties() {
        World.refuseWrongParties(OF_STATES);
        World.refuseWrongParties((x, party) -> x.refusal(party));
        for (int parties = 1; parties <= 4; parties++) {
            int count = parties;
            World whole = new World(() -> Samples.ended(count));
            for (int right = 0; right < count; right++) {
                int party = right;
                whole.tells('-', x -> x.refusal(party));
                whole.tells(1, x -> x.states(party));
                whole.begun().tells('e', x -> x.kindOf(party, 0));
            }
        }
    }

    private static void refusesAll(World world) {
        for (int party = 0; party < 3; party++) {
            int asked = party;
            world.refuses(Expect.STATE, x -> x.refusal(asked));
            for (World.OfParty call : OF_STATES) {
                world.refuses(Expect.STATE, x -> call.on(x, asked));
            }
        }
    }

    /** No start, or a message without a branch wherever it stands, also of a party that would be refused. */
    private static void notWhole() {
        refusesAll(new World(() -> Samples.parties(3)));
        refusesAll(new World(() -> Samples.refusedButForAStart(3)));
        refusesAll(new World(() -> {
            QuantityQuarry x = Samples.refused(3);
            x.addMessage(1, 0);
            return x;
        }));
        refusesAll(new World(() -> {
            QuantityQuarry x = Samples.refused(3);
            x.addMessage(1, 2);
            x.addBranch(1, 2, true, 3);
            return x;
        }));
        refusesAll(new World(() -> {
            QuantityQuarry x = Samples.parties(3);
            x.addMessage(0, 1);
            x.setStart(0);
            return x;
        }));
        refusesAll(new World(() -> {
            QuantityQuarry x = Samples.ended(3);
            for (int node = 1; node < 19; node++) {
                x.addEnd();
            }
            x.addMessage(0, 1);
            return x;
        }));
        refusesAll(new World(() -> {
            QuantityQuarry x = Samples.parties(3);
            x.addMessage(0, 1);
            x.addEnd();
            x.setStart(1);
            return x;
        }));
    }

    /** 'whole if there is a start, and each message has a branch': ends need none, and one is enough. */
    private static void wholeWithEndsAlone() {
        QuantityQuarry x = Samples.parties(2);
        Expect.same(0, x.addEnd());
        Expect.thrown(Expect.STATE, () -> x.refusal(0));
        x.setStart(0);
        Expect.same('-', x.refusal(0));
        Expect.same(1, x.addMessage(0, 1));
        Expect.thrown(Expect.STATE, () -> x.refusal(0));
        x.addBranch(1, 5, false, 1);
        Expect.same('-', x.refusal(0));
        x.setStart(1);
        Expect.same(1, x.states(0));
        Expect.same(0, x.follower(0, 0, 5));
    }

    private static void refusedForEachReason() {
        refusedFor('m', () -> Samples.oneOfThree("12", "21", "12", "2 0+ 4", "3 0+ 4"));
        refusedFor('e', () -> Samples.oneOfThree("12", "12", "e", "2 0+ 4"));
        refusedFor('e', () -> Samples.oneOfThree("21", "e", "e"));
        refusedFor('t', () -> Samples.oneOfThree("12", "02", "12", "2 0+ 4", "3 0+ 4"));
        refusedFor('t', () -> Samples.oneOfThree("21", "21", "20", "2 0+ 4", "3 0+ 4"));
        refusedFor('l', () -> Samples.oneOfThree("21", "21", "21", "2 0+ 4", "3 0+ 4", "3 5 4"));
        refusedFor('k', () -> Samples.oneOfThree("12", "12", "12", "2 0+ 4", "3 0 4"));
        refusedFor('k', () -> Samples.oneOfThree("21", "21", "21", "2 0 4", "3 0+ 4"));
        refusedFor('b', () -> Samples.cycles(true, 5, 8, false));
        firstOf('-', Samples.oneOfThree("12", "12", "12", "2 1 4", "3 0+ 4", "3 5 4"));
        firstOf('-', Samples.oneOfThree("21", "21", "21", "2 0+ 4", "3 0+ 4"));
    }

    /** A party that is refused has no states, which is told ahead of a state or label that there is not. */
    private static void refusedFor(char reason, World.Make language) {
        World world = new World(language);
        for (World asked : new World[] {world, world.begun()}) {
            asked.answers(reason, x -> x.refusal(2));
            asked.answers(false, x -> x.isAdmitted(2));
            for (World.OfParty call : OF_STATES) {
                asked.refuses(Expect.UNSUPPORTED, x -> call.on(x, 2));
            }
        }
    }

    /** Of each two reasons of one state the one that the document lists first. */
    private static void firstOfTwoReasons() {
        firstOf('m', Samples.oneOfThree("12", "21", "e", "2 0+ 4"));
        firstOf('m', Samples.oneOfThree("12", "20", "12", "2 0+ 4", "3 0+ 4"));
        firstOf('m', Samples.oneOfThree("21", "12", "21", "2 0+ 4", "3 1 4"));
        firstOf('m', Samples.oneOfThree("12", "21", "12", "2 0 4", "3 0 4"));
        firstOf('e', Samples.oneOfThree("12", "02", "e", "2 0+ 4"));
        firstOf('e', Samples.oneOfThree("21", "21", "e", "2 1 4"));
        firstOf('e', Samples.oneOfThree("12", "12", "e", "2 0 4"));
        firstOf('t', Samples.oneOfThree("21", "20", "21", "2 1 4", "3 0+ 4"));
        firstOf('t', Samples.oneOfThree("12", "02", "12", "2 0 4", "3 0+ 4"));
        firstOf('l', Samples.oneOfThree("21", "21", "21", "2 0 4", "2 1 4", "3 0+ 4"));
    }

    private static void firstOf(char reason, QuantityQuarry x) {
        Expect.same(reason, x.refusal(2));
    }

    /** 'The states are looked at by rising numbers': a reason of state 1 is told, whatever state 2 gives. */
    private static void reasonsOfLaterStates() {
        for (int swapped = 0; swapped < 2; swapped++) {
            QuantityQuarry x = Samples.parties(3);
            Samples.nodes(x, "21", "01", "21", "e", "01", "21", "12", "e");
            x.addBranch(0, swapped == 0 ? 0 : 5, false, 1);
            x.addBranch(0, swapped == 0 ? 5 : 0, false, 4);
            Samples.branches(x, "1 0 2", "1 1 3", "2 0 7", "4 0 5", "4 1 6", "5 0 7", "6 0 7");
            x.setStart(0);
            Expect.same(swapped == 0 ? 'e' : 'm', x.refusal(2));
            x.setStart(2);
            Expect.same('-', x.refusal(2));
            Expect.same(2, x.states(2));
        }
    }

    /** 40 states are allowed, 41 are not, both for a party that sends and for one that receives. */
    private static void fortyStates() {
        for (boolean receives : new boolean[] {true, false}) {
            World forty = new World(() -> Samples.cycles(receives, 3, 13, true));
            forty.answers('-', x -> x.refusal(2));
            forty.answers(40, x -> x.states(2));
            forty.answers(receives ? 'r' : 's', x -> x.kindOf(2, 39));
            forty.answers(1, x -> x.partnerOf(2, 39));
            forty.answers(139, x -> x.follower(2, 38, 5));
            forty.answers(101, x -> x.follower(2, 39, 5));
            for (int wrong : Ints.outside(0, 39)) {
                forty.refuses(Expect.ELEMENT, x -> x.kindOf(2, wrong));
                forty.refuses(Expect.ELEMENT, x -> x.partnerOf(2, wrong));
                forty.refuses(Expect.ELEMENT, x -> x.follower(2, wrong, 5));
            }
            new World(() -> Samples.cycles(receives, 5, 8, true)).answers('b', x -> x.refusal(2));
            new World(() -> Samples.cycles(receives, 6, 13, true)).answers('b', x -> x.refusal(2));
            new World(() -> Samples.cycles(receives, 5, 7, true)).answers(36, x -> x.states(2));
        }
    }

    private static void wrongStates() {
        World pingPong = new World(Samples::pingPong);
        World one = new World(() -> Samples.ended(2));
        for (World world : new World[] {pingPong, pingPong.begun()}) {
            for (int wrong : Ints.outside(0, 2)) {
                world.refuses(Expect.ELEMENT, x -> x.kindOf(1, wrong));
                world.refuses(Expect.ELEMENT, x -> x.partnerOf(1, wrong));
                for (int label : new int[] {0, 1, 2, 6, -1}) {
                    world.refuses(Expect.ELEMENT, x -> x.follower(1, wrong, label));
                }
            }
        }
        for (int wrong : Ints.outside(0, 0)) {
            World.allRefuse(Expect.ELEMENT, x -> x.kindOf(1, wrong), one, one.begun());
            World.allRefuse(Expect.ELEMENT, x -> x.partnerOf(1, wrong), one, one.begun());
            World.allRefuse(Expect.ELEMENT, x -> x.follower(1, wrong, 0), one, one.begun());
        }
        statesOfAnOlderProtocol();
    }

    private static void hasNoState(QuantityQuarry x, int party, int state) {
        Expect.thrown(Expect.ELEMENT, () -> x.kindOf(party, state));
        Expect.thrown(Expect.ELEMENT, () -> x.partnerOf(party, state));
        for (int label : Ints.inside(0, 5)) {
            Expect.thrown(Expect.ELEMENT, () -> x.follower(party, state, label));
        }
    }

    /** States that there were, or were looked at, ahead of a new start are no states any more. */
    private static void statesOfAnOlderProtocol() {
        QuantityQuarry x = Samples.pingPong();
        Expect.same(0, x.follower(0, 1, 1));
        x.setStart(2);
        Expect.same(1, x.states(0));
        Expect.same('e', x.kindOf(0, 0));
        Expect.thrown(Expect.ELEMENT, () -> x.partnerOf(0, 0));
        for (int label : Ints.inside(0, 5)) {
            Expect.thrown(Expect.ELEMENT, () -> x.follower(0, 0, label));
        }
        hasNoState(x, 0, 1);
        hasNoState(x, 0, 2);
        x.setStart(1);
        Expect.same(0, x.partnerOf(1, 0));
        Expect.same(1, x.follower(1, 0, 1));
        Expect.thrown(Expect.ELEMENT, () -> x.follower(1, 0, 2));
        QuantityQuarry many = Samples.cycles(true, 5, 8, true);
        Expect.same('b', many.refusal(2));
        many.setStart(1);
        Expect.same(5, many.states(2));
        Expect.same(100, many.follower(2, 4, 5));
        hasNoState(many, 2, 5);
        hasNoState(many, 2, 39);
        hasNoState(many, 2, 40);
    }

    /** 'no such state, or it is an end', as a first state, as one behind messages, and with others' messages in it. */
    private static void endsHaveNoPartner() {
        World pingPong = new World(Samples::pingPong);
        for (int party = 0; party < 2; party++) {
            int asked = party;
            pingPong.answers('e', x -> x.kindOf(asked, 2));
            pingPong.refuses(Expect.ELEMENT, x -> x.partnerOf(asked, 2));
            pingPong.answers(1 - asked, x -> x.partnerOf(asked, 0));
            pingPong.answers(1 - asked, x -> x.partnerOf(asked, 1));
        }
        World others = new World(() -> {
            QuantityQuarry x = Samples.pingPong();
            x.addParty();
            x.addParty();
            return x;
        });
        for (int party = 2; party < 4; party++) {
            int asked = party;
            others.answers('e', x -> x.kindOf(asked, 0));
            others.answers(1, x -> x.states(asked));
            others.refuses(Expect.ELEMENT, x -> x.partnerOf(asked, 0));
            others.refuses(Expect.ELEMENT, x -> x.follower(asked, 0, 0));
        }
    }

    /** Labels out of range, and those of no branch, have no follower. */
    private static void wrongLabels() {
        World pingPong = new World(Samples::pingPong);
        for (int label : Ints.outside(0, 5)) {
            for (int state = 0; state < 3; state++) {
                int here = state;
                pingPong.refuses(Expect.ELEMENT, x -> x.follower(0, here, label));
                pingPong.refuses(Expect.ELEMENT, x -> x.follower(1, here, label));
            }
        }
        for (int label : Ints.inside(0, 5)) {
            if (label != 0 && label != 2) {
                pingPong.refuses(Expect.ELEMENT, x -> x.follower(0, 0, label));
            }
            if (label != 1) {
                pingPong.refuses(Expect.ELEMENT, x -> x.follower(0, 1, label));
            }
            pingPong.refuses(Expect.ELEMENT, x -> x.follower(0, 2, label));
        }
    }

    /** Each label, to state 0 and on to another one, without a cell and with one, which is 100 more. */
    private static void labelsWithAndWithoutCell() {
        for (int label : Ints.inside(0, 5)) {
            for (int cell = 0; cell < 2; cell++) {
                QuantityQuarry x = Samples.parties(4);
                Samples.nodes(x, "32", "e", "32");
                x.addBranch(0, label, cell == 1, 0);
                x.addBranch(2, label, cell == 1, 1);
                x.setStart(0);
                for (int party = 2; party < 4; party++) {
                    Expect.same(1, x.states(party));
                    Expect.same(100 * cell, x.follower(party, 0, label));
                }
                x.setStart(2);
                for (int party = 2; party < 4; party++) {
                    Expect.same(2, x.states(party));
                    Expect.same(1 + 100 * cell, x.follower(party, 0, label));
                }
            }
        }
    }
}
