/** The boundary cases of promises 1 to 6: limits at both ends, and each refused call. */
public final class ProtocolEdgesTest {
    public static void main(String[] args) {
        newObject();
        addParty();
        newPartyIsEmpty();
        addMessageParties();
        addMessageNodes();
        addEnd();
        addBranchNodes();
        addBranchArguments();
        addBranchStates();
        addBranchLastNode();
        setStart();
        Expect.finish();
    }

    /** Promise 1: no party, no node, no start, no run, no step. */
    private static void newObject() {
        World bare = new World(QuantityQuarry::new);
        bare.answers(0, x -> x.addParty());
        bare.answers(0, x -> x.addEnd());
        bare.answers(0L, x -> x.steps());
        bare.answers(true, x -> x.isConsistent());
        bare.refuses(Expect.INDEX, x -> x.addMessage(0, 1));
        bare.refuses(Expect.INDEX, x -> x.addBranch(0, 0, false, 0));
        bare.refuses(Expect.INDEX, x -> x.setStart(0));
        bare.refuses(Expect.INDEX, x -> x.refusal(0));
        bare.refuses(Expect.INDEX, x -> x.add(0, 'e', 0, 0, 0));
        bare.refuses(Expect.INDEX, x -> x.addCase(0, 0, 0, 0, 0));
        bare.refuses(Expect.INDEX, x -> x.setNumber(0, 0, 0));
        bare.refuses(Expect.INDEX, x -> x.isAdmitted(0));
        bare.refuses(Expect.INDEX, x -> x.setMonitor(0, true));
        bare.refuses(Expect.INDEX, x -> x.step(0));
        bare.refuses(Expect.STATE, x -> x.begin(1));
        bare.refuses(Expect.STATE, x -> x.close());
        bare.refuses(Expect.STATE, x -> x.cellsInUse());
        bare.refuses(Expect.STATE, x -> x.isStuck());
        bare.refuses(Expect.STATE, x -> x.search());
        bare.refuses(Expect.STATE, x -> x.reached());
        bare.refuses(Expect.STATE, x -> x.meanPlaces());
        bare.refuses(Expect.STATE, x -> x.admittedShare());
    }

    /** Promise 2: 4 parties are too many for one more, and so is a run, with each number of parties. */
    private static void addParty() {
        for (int parties = 0; parties <= 4; parties++) {
            int count = parties;
            World open = new World(() -> Samples.ended(count));
            World closed = new World(() -> {
                QuantityQuarry x = Samples.ended(count);
                x.begin(3);
                x.close();
                return x;
            });
            if (count < 4) {
                open.answers(count, x -> x.addParty());
                closed.answers(count, x -> x.addParty());
                new World(() -> Samples.parties(count)).answers(count, x -> x.addParty());
            } else {
                World.allRefuse(Expect.STATE, x -> x.addParty(), open, closed, new World(() -> Samples.parties(4)));
            }
            open.begun().refuses(Expect.STATE, x -> x.addParty());
        }
    }

    /** Promise 2: 'Adds a party with an empty program and no monitor', with each number of parties. */
    private static void newPartyIsEmpty() {
        for (int parties = 0; parties < 4; parties++) {
            int added = parties;
            World world = new World(() -> {
                QuantityQuarry x = Samples.ended(added);
                for (int party = 0; party < added; party++) {
                    x.add(party, 'e', 0, 0, 0);
                    x.setNumber(party, 0, 9);
                    x.setNumber(party, 1, 9);
                    x.setMonitor(party, true);
                }
                x.addParty();
                return x;
            });
            world.answers('i', x -> x.fault(added));
            world.answers(0, x -> x.faultAt(added));
            world.answers(1, x -> x.places(added));
            world.answers(0, x -> x.idleCases(added));
            world.answers(false, x -> x.isAdmitted(added));
            world.answers(0, x -> x.add(added, 'j', 19, 0, 0));
            world.answers(0, x -> x.setNumber(added, 0, 1));
            world.answers(0, x -> x.setNumber(added, 1, 1));
            world.answers(added, x -> x.setMonitor(added, false));
            world.refuses(Expect.INDEX, x -> x.addCase(added, 0, 0, 0, 0));
            world.begun().refuses(Expect.ELEMENT, x -> x.stateOf(added));
            world.begun().answers('x', x -> x.step(added));
        }
    }

    private static QuantityQuarry twentyNodes(int parties) {
        QuantityQuarry x = Samples.ended(parties);
        for (int node = 1; node < 20; node++) {
            x.addEnd();
        }
        return x;
    }

    /** Promise 3: the parties there are, with each number of them; wrong ones ahead of all else. */
    private static void addMessageParties() {
        for (int parties = 0; parties <= 4; parties++) {
            int count = parties;
            World open = new World(() -> Samples.parties(count));
            World full = new World(() -> twentyNodes(count));
            World[] worlds = {open, full, new World(() -> Samples.ended(count)).begun(), full.begun()};
            for (int wrong : Ints.outside(0, count - 1)) {
                for (int other = 0; other < count; other++) {
                    int right = other;
                    World.allRefuse(Expect.INDEX, x -> x.addMessage(wrong, right), worlds);
                    World.allRefuse(Expect.INDEX, x -> x.addMessage(right, wrong), worlds);
                }
                World.allRefuse(Expect.INDEX, x -> x.addMessage(wrong, wrong), worlds);
            }
            for (int first = 0; first < count; first++) {
                int from = first;
                World.allRefuse(Expect.ARGUMENT, x -> x.addMessage(from, from), worlds);
                for (int second = 0; second < count; second++) {
                    int to = second;
                    if (from != to) {
                        open.answers(0, x -> x.addMessage(from, to));
                        World.allRefuse(Expect.STATE, x -> x.addMessage(from, to), worlds[1], worlds[2], worlds[3]);
                    }
                }
            }
        }
    }

    /** Promise 3: nodes 0 to 19. */
    private static void addMessageNodes() {
        QuantityQuarry x = Samples.parties(4);
        for (int node = 0; node < 20; node++) {
            Expect.same(node, x.addMessage(node % 4, (node + 1 + node % 3) % 4));
        }
        Expect.thrown(Expect.STATE, () -> x.addMessage(0, 1));
        Expect.thrown(Expect.STATE, x::addEnd);
        World nineteen = new World(() -> {
            QuantityQuarry y = Samples.parties(2);
            for (int node = 0; node < 19; node++) {
                y.addEnd();
            }
            return y;
        });
        nineteen.answers(19, y -> y.addMessage(0, 1));
        nineteen.answers(19, y -> y.addMessage(1, 0));
        nineteen.answers(19, y -> y.addEnd());
    }

    /** Promise 4: nodes 0 to 19, also without parties; not in a run. */
    private static void addEnd() {
        QuantityQuarry x = new QuantityQuarry();
        for (int node = 0; node < 20; node++) {
            Expect.same(node, x.addEnd());
        }
        Expect.thrown(Expect.STATE, x::addEnd);
        World full = new World(() -> twentyNodes(2));
        World few = new World(() -> Samples.ended(2));
        World.allRefuse(Expect.STATE, y -> y.addEnd(), full, full.begun(), few.begun());
        few.answers(1, y -> y.addEnd());
    }

    /** Node 0 has a branch, node 1 is an end, node 2 has three branches, node 3 has one to itself. */
    private static QuantityQuarry fourNodes() {
        QuantityQuarry x = Samples.parties(2);
        Samples.nodes(x, "01", "e", "10", "01");
        Samples.branches(x, "0 1 1", "2 0 1", "2 3+ 2", "2 5 0", "3 4+ 3");
        x.setStart(0);
        return x;
    }

    /** Promise 5: wrong nodes, ahead of wrong arguments, of branches that there are, and of a run. */
    private static void addBranchNodes() {
        World open = new World(ProtocolEdgesTest::fourNodes);
        World run = open.begun();
        for (int wrong : Ints.outside(0, 3)) {
            for (World world : new World[] {open, run}) {
                world.refuses(Expect.INDEX, x -> x.addBranch(wrong, 0, true, 1));
                world.refuses(Expect.INDEX, x -> x.addBranch(wrong, 6, true, 1));
                world.refuses(Expect.INDEX, x -> x.addBranch(wrong, 0, false, wrong));
                world.refuses(Expect.INDEX, x -> x.addBranch(0, 0, true, wrong));
                world.refuses(Expect.INDEX, x -> x.addBranch(0, -1, false, wrong));
                world.refuses(Expect.INDEX, x -> x.addBranch(0, 1, true, wrong));
                world.refuses(Expect.INDEX, x -> x.addBranch(1, 0, false, wrong));
                world.refuses(Expect.INDEX, x -> x.addBranch(1, 6, true, wrong));
                world.refuses(Expect.INDEX, x -> x.addBranch(2, 1, false, wrong));
                world.refuses(Expect.INDEX, x -> x.addBranch(2, 3, true, wrong));
            }
        }
        for (int next = 0; next < 4; next++) {
            int right = next;
            open.answers(2, x -> x.addBranch(0, 0, true, right));
            open.answers(2, x -> x.addBranch(3, 0, false, right));
        }
        World bare = new World(() -> Samples.parties(2));
        bare.refuses(Expect.INDEX, x -> x.addBranch(0, 0, true, 0));
    }

    /** Promise 5: a branch of an end, or a label out of range, ahead of branches that there are and of a run. */
    private static void addBranchArguments() {
        World open = new World(ProtocolEdgesTest::fourNodes);
        World run = open.begun();
        for (int label : Ints.outside(0, 5)) {
            for (int node = 0; node < 4; node++) {
                int here = node;
                World.allRefuse(Expect.ARGUMENT, x -> x.addBranch(here, label, true, 1), open, run);
            }
        }
        for (int label : Ints.inside(0, 5)) {
            World.allRefuse(Expect.ARGUMENT, x -> x.addBranch(1, label, label % 2 == 0, label % 4), open, run);
        }
    }

    /** Promise 5: 3 branches are too many for one more, and so is the same label, and a run. */
    private static void addBranchStates() {
        World open = new World(ProtocolEdgesTest::fourNodes);
        World run = open.begun();
        for (int label : Ints.inside(0, 5)) {
            World.allRefuse(Expect.STATE, x -> x.addBranch(2, label, true, 1), open, run);
            if (label == 1) {
                open.refuses(Expect.STATE, x -> x.addBranch(0, 1, true, 1));
                open.refuses(Expect.STATE, x -> x.addBranch(0, 1, false, 3));
            } else {
                open.answers(2, x -> x.addBranch(0, label, true, 1));
            }
            run.refuses(Expect.STATE, x -> x.addBranch(0, label, true, 1));
            run.refuses(Expect.STATE, x -> x.addBranch(3, label, false, 2));
            World message = new World(() -> {
                QuantityQuarry x = Samples.parties(2);
                Samples.nodes(x, "01", "10");
                return x;
            });
            message.answers(1, x -> x.addBranch(0, label, false, 0));
            message.answers(1, x -> x.addBranch(1, label, true, 0));
        }
        labelsOfOtherNodes();
    }

    /** 'No two branches of a node have the same label', but those of two nodes may. */
    private static void labelsOfOtherNodes() {
        QuantityQuarry x = Samples.parties(2);
        Samples.nodes(x, "01", "01");
        for (int label : new int[] {5, 0, 2}) {
            Expect.same(label == 5 ? 1 : label == 0 ? 2 : 3, x.addBranch(0, label, true, 1));
            Expect.same(label == 5 ? 1 : label == 0 ? 2 : 3, x.addBranch(1, label, true, 0));
        }
        x.setStart(0);
        Expect.same(101, x.follower(0, 0, 0));
        Expect.same(101, x.follower(0, 0, 2));
        Expect.same(101, x.follower(0, 0, 5));
        Expect.same(100, x.follower(1, 1, 5));
    }

    /** Promise 5: node 19 has branches, and branches lead to it; there is no node 20. */
    private static void addBranchLastNode() {
        World world = new World(() -> {
            QuantityQuarry x = Samples.parties(2);
            for (int node = 0; node < 20; node++) {
                x.addMessage(0, 1);
                x.addBranch(node, 2, false, node);
            }
            x.setStart(19);
            return x;
        });
        world.answers(2, x -> x.addBranch(19, 5, true, 19));
        world.answers(2, x -> x.addBranch(19, 0, true, 0));
        world.answers(2, x -> x.addBranch(0, 0, true, 19));
        for (int wrong : Ints.outside(0, 19)) {
            World.allRefuse(Expect.INDEX, x -> x.addBranch(wrong, 0, true, 0), world, world.begun());
            World.allRefuse(Expect.INDEX, x -> x.addBranch(0, 0, true, wrong), world, world.begun());
        }
        world.refuses(Expect.STATE, x -> x.addBranch(19, 2, true, 0));
        world.refuses(Expect.ARGUMENT, x -> x.addBranch(19, 6, true, 19));
        world.begun().refuses(Expect.STATE, x -> x.addBranch(19, 3, true, 19));
    }

    /** Promise 6: the nodes there are, -1 for no start before, and not in a run. */
    private static void setStart() {
        for (int count : new int[] {0, 1, 2, 20}) {
            World open = new World(() -> {
                QuantityQuarry x = Samples.parties(1);
                for (int node = 0; node < count; node++) {
                    x.addEnd();
                }
                return x;
            });
            for (int wrong : Ints.outside(0, count - 1)) {
                open.refuses(Expect.INDEX, x -> x.setStart(wrong));
            }
            for (int node = 0; node < count; node++) {
                int start = node;
                open.answers(-1, x -> x.setStart(start));
                World told = new World(() -> {
                    QuantityQuarry x = open.make();
                    x.setStart(start);
                    return x;
                });
                told.answers(start, x -> x.setStart(start));
                told.answers(start, x -> x.setStart(0));
                told.answers(start, x -> x.setStart(count - 1));
                told.begun().refuses(Expect.STATE, x -> x.setStart(start));
                told.begun().refuses(Expect.STATE, x -> x.setStart(0));
                for (int wrong : Ints.outside(0, count - 1)) {
                    told.begun().refuses(Expect.INDEX, x -> x.setStart(wrong));
                }
            }
        }
    }
}
