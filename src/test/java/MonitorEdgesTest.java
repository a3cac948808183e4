/** The boundary cases of promises 20, 31 and 32, and of what the document says of monitors. */
public final class MonitorEdgesTest {
    public static void main(String[] args) {
        wrongParties();
        notWholeOrInARun();
        refusedParties();
        countsOfMonitors();
        beginWithARefusedParty();
        partiesWithoutMonitor();
        statesGoOnFrom0To39();
        blamedSends();
        blamedReceives();
        blamedEnds();
        blamedAtSteps();
        notBlamed();
        notLookedAt();
        Expect.finish();
    }

    /** Promise 20: wrong parties, with each number of them, ahead of all else; right ones in no run. */
    private static void wrongParties() {
        World.refuseWrongParties((x, party) -> x.setMonitor(party, true), (x, party) -> x.setMonitor(party, false));
        for (int parties = 1; parties <= 4; parties++) {
            int count = parties;
            World bare = new World(() -> Samples.parties(count));
            World open = new World(() -> Samples.ended(count));
            for (int right = 0; right < count; right++) {
                int party = right;
                World.allRefuse(Expect.STATE, x -> x.setMonitor(party, true), bare, open.begun());
                World.allRefuse(Expect.STATE, x -> x.setMonitor(party, false), bare, open.begun());
                open.answers(1, x -> x.setMonitor(party, true));
                open.answers(0, x -> x.setMonitor(party, false));
            }
        }
    }

    /** Promise 20: that is told of a refused party too. */
    private static void notWholeOrInARun() {
        World noStart = new World(() -> Samples.refusedButForAStart(4));
        World noBranch = new World(() -> {
            QuantityQuarry x = Samples.refused(4);
            x.addMessage(0, 1);
            return x;
        });
        World run = new World(() -> Samples.refused(4)).begun();
        for (int party = 0; party < 4; party++) {
            int asked = party;
            World.allRefuse(Expect.STATE, x -> x.setMonitor(asked, true), noStart, noBranch, run);
            World.allRefuse(Expect.STATE, x -> x.setMonitor(asked, false), noStart, noBranch, run);
        }
    }

    private static void refusedParties() {
        World world = new World(() -> Samples.refused(4));
        world.refuses(Expect.UNSUPPORTED, x -> x.setMonitor(2, true));
        world.refuses(Expect.UNSUPPORTED, x -> x.setMonitor(2, false));
        for (int party : new int[] {0, 1, 3}) {
            world.answers(1, x -> x.setMonitor(party, true));
            world.answers(0, x -> x.setMonitor(party, false));
        }
    }

    /** Promise 20: 0 to 4 parties with a monitor; giving one twice, or taking none away, counts once. */
    private static void countsOfMonitors() {
        QuantityQuarry x = Samples.ended(4);
        int[] order = {2, 0, 3, 1};
        for (int i = 0; i < 4; i++) {
            Expect.same(i, x.setMonitor(order[i], false));
            Expect.same(i + 1, x.setMonitor(order[i], true));
            Expect.same(i + 1, x.setMonitor(order[i], true));
        }
        x.begin(1);
        x.close();
        for (int i = 3; i >= 0; i--) {
            Expect.same(i, x.setMonitor(order[i], false));
            Expect.same(i, x.setMonitor(order[i], false));
        }
    }

    /** Party 'last' was given a monitor ahead of the branch by which it is refused; others may have one too. */
    private static QuantityQuarry monitoredAndRefused(int last, boolean areAll) {
        QuantityQuarry x = Samples.parties(4);
        int first = (last + 1) % 4;
        int second = (last + 2) % 4;
        x.addMessage(first, second);
        x.addMessage(second, last);
        x.addEnd();
        Samples.branches(x, "0 0 1", "1 0 2");
        x.setStart(0);
        for (int party = 0; party < 4; party++) {
            x.setMonitor(party, areAll || party == last);
        }
        x.addBranch(0, 1, false, 2);
        return x;
    }

    /** Promise 21: 'a party with a monitor is refused', behind a capacity that is out of range. */
    private static void beginWithARefusedParty() {
        for (int party = 0; party < 4; party++) {
            int last = party;
            for (boolean areAll : new boolean[] {false, true}) {
                World world = new World(() -> monitoredAndRefused(last, areAll));
                World notWhole = new World(() -> {
                    QuantityQuarry x = monitoredAndRefused(last, areAll);
                    x.addMessage(0, 1);
                    return x;
                });
                world.answers('e', x -> x.refusal(last));
                for (int capacity = 1; capacity <= 3; capacity++) {
                    int right = capacity;
                    World.allRefuse(Expect.STATE, x -> x.begin(right), world, notWhole);
                }
                for (int wrong : Ints.outside(1, 3)) {
                    World.allRefuse(Expect.ARGUMENT, x -> x.begin(wrong), world, notWhole);
                }
                World again = new World(() -> {
                    QuantityQuarry x = monitoredAndRefused(last, areAll);
                    x.setStart(1);
                    x.setMonitor(last, false);
                    x.setStart(0);
                    return x;
                });
                again.answers(4, x -> x.begin(1));
                again.refuses(Expect.UNSUPPORTED, x -> x.setMonitor(last, true));
            }
        }
    }

    /** Promise 31: of each party with a monitor its state, of each other one none, whatever the others have. */
    private static void partiesWithoutMonitor() {
        for (int monitors = 0; monitors < 16; monitors++) {
            int with = monitors;
            World world = new World(() -> {
                QuantityQuarry x = Samples.ended(4);
                for (int party = 0; party < 4; party++) {
                    x.add(party, 'e', 0, 0, 0);
                    x.setMonitor(party, (with >> party & 1) != 0);
                }
                x.begin(1);
                x.step(3);
                x.cancel(0);
                return x;
            });
            for (int party = 0; party < 4; party++) {
                int asked = party;
                if ((with >> party & 1) != 0) {
                    world.answers(0, x -> x.stateOf(asked));
                } else {
                    world.refuses(Expect.ELEMENT, x -> x.stateOf(asked));
                }
                world.refuses(Expect.ELEMENT, x -> x.blamedAt(asked));
            }
        }
    }

    /** A monitor of party 2, which has 40 states, goes through all of them, and back from state 39 to state 1. */
    private static void statesGoOnFrom0To39() {
        QuantityQuarry x = Samples.cycles(true, 3, 13, true);
        Samples.program(x, 1, "n 0", "s 2 5 0", "j 0");
        Samples.program(x, 2, "r 1", "? 5 3 1", "u 3", "j 0");
        Expect.same(17, x.states(1));
        Expect.same(1, x.setMonitor(2, true));
        x.begin(1);
        for (int i = 0; i < 41; i++) {
            Expect.same(i < 40 ? i : i - 39, x.stateOf(2));
            Expect.same("dddddd", Samples.steps(x, "111222"));
        }
        Expect.same(2, x.stateOf(2));
        Expect.same(246, x.close());
        x.begin(1);
        Expect.same(0, x.stateOf(2));
    }

    /** Party 0 sends party 1 label 0 with a cell or label 5 without one, then party 1 answers by label 2. */
    private static QuantityQuarry language() {
        QuantityQuarry x = Samples.parties(3);
        Samples.nodes(x, "01", "10", "e");
        Samples.branches(x, "0 0+ 1", "0 5 1", "1 2 2");
        x.setStart(0);
        return x;
    }

    /** The sign of the last step, of a party with a monitor that makes as many steps as it has instructions. */
    private static char last(QuantityQuarry x, int party, int steps) {
        char sign = '?';
        for (int i = 0; i < steps; i++) {
            sign = x.step(party);
        }
        return sign;
    }

    private static void sends(char due, int state, String... program) {
        QuantityQuarry x = language();
        Samples.program(x, 0, program);
        x.setMonitor(0, true);
        x.begin(3);
        Expect.same(due, last(x, 0, program.length));
        Expect.same(state, x.stateOf(0));
        if (due == 'v') {
            Expect.same('c', x.condition(0));
            Expect.same(program.length - 1, x.blamedAt(0));
            Expect.same(program.length - 1, x.at(0));
            Expect.same(program.length, x.close());
        } else {
            Expect.thrown(Expect.ELEMENT, () -> x.blamedAt(0));
        }
    }

    /** A step that would send: 'by party, label, or whether there is a cell', and in a state that does not send. */
    private static void blamedSends() {
        sends('d', 1, "n 0", "s 1 0 0");
        sends('d', 1, "s 1 5 -1");
        sends('v', 0, "n 0", "s 2 0 0");
        sends('v', 0, "s 2 5 -1");
        for (int label = 1; label < 5; label++) {
            sends('v', 0, "n 0", "s 1 " + label + " 0");
            sends('v', 0, "s 1 " + label + " -1");
        }
        sends('v', 0, "s 1 0 -1");
        sends('v', 0, "n 3", "s 1 5 3");
        sends('v', 1, "s 1 5 -1", "s 1 5 -1");
        sends('v', 1, "s 1 5 -1", "s 1 2 -1");
        QuantityQuarry nothing = language();
        Samples.program(nothing, 2, "s 1 5 -1");
        nothing.setMonitor(2, true);
        nothing.begin(1);
        Expect.same('v', nothing.step(2));
        Expect.same(0, nothing.blamedAt(2));
        Expect.same(0, nothing.queued(2, 1));
    }

    private static void receives(char due, int sender, String send, String receive) {
        QuantityQuarry x = language();
        Samples.program(x, sender, "n 0", send, "j 2");
        String name = send.endsWith("-1") ? " -1 0" : " 3 0";
        Samples.program(x, 1, receive, "? 0" + name, "? 1" + name, "? 2" + name, "? 4" + name, "? 5" + name);
        x.setMonitor(1, true);
        x.begin(1);
        Expect.same("dd", Samples.steps(x, "" + sender + sender));
        int cells = x.cellsInUse();
        Expect.same(due, x.step(1));
        Expect.same(due == 'd' ? 1 : 0, x.stateOf(1));
        Expect.same(0, x.queued(sender, 1));
        if (due == 'd') {
            Expect.same(cells, x.cellsInUse());
            Expect.thrown(Expect.ELEMENT, () -> x.blamedAt(1));
        } else {
            Expect.same(send.endsWith("-1") ? cells : cells - 1, x.cellsInUse());
            Expect.same(2, x.blamedAt(1));
        }
    }

    private static void blamedReceives() {
        receives('d', 0, "s 1 0 0", "r 0");
        receives('d', 0, "s 1 5 -1", "r 0");
        receives('v', 0, "s 1 0 -1", "r 0");
        receives('v', 0, "s 1 5 0", "r 0");
        for (int label : new int[] {1, 2, 4}) {
            receives('v', 0, "s 1 " + label + " 0", "r 0");
            receives('v', 0, "s 1 " + label + " -1", "r 0");
        }
        receives('v', 2, "s 1 0 0", "r 2");
        receives('v', 2, "s 1 5 -1", "r 2");
        QuantityQuarry x = language();
        Samples.program(x, 1, "s 0 0 -1");
        Samples.program(x, 0, "r 1", "? 0 -1 0");
        x.setMonitor(0, true);
        x.begin(1);
        Expect.same("dv", Samples.steps(x, "10"));
        Expect.same(1, x.blamedAt(0));
        QuantityQuarry nothing = language();
        Samples.program(nothing, 1, "s 2 2 -1");
        Samples.program(nothing, 2, "r 1", "? 2 -1 0");
        nothing.setMonitor(2, true);
        nothing.begin(1);
        Expect.same("dv", Samples.steps(nothing, "12"));
        Expect.same(1, nothing.blamedAt(2));
    }

    /** 'so it is if it would end in a state that is no end', which sends or receives. */
    private static void blamedEnds() {
        sends('v', 0, "e");
        sends('v', 0, "n 0", "e");
        sends('v', 1, "s 1 5 -1", "e");
        QuantityQuarry x = language();
        Samples.program(x, 0, "s 1 5 -1", "r 1", "? 2 -1 2", "e");
        Samples.program(x, 1, "r 0", "? 5 -1 1", "s 0 2 -1", "e");
        Samples.program(x, 2, "n 0", "e");
        for (int party = 0; party < 3; party++) {
            x.setMonitor(party, true);
        }
        x.begin(1);
        Expect.same("dddedede", Samples.steps(x, "01110022"));
        for (int party = 0; party < 3; party++) {
            int asked = party;
            Expect.thrown(Expect.ELEMENT, () -> x.blamedAt(asked));
        }
    }

    /** Promise 32: 0 for the first step, and as many as were made, of all parties, blocked ones not included. */
    private static void blamedAtSteps() {
        for (int before = 0; before < 5; before++) {
            QuantityQuarry x = language();
            Samples.program(x, 0, "e");
            Samples.program(x, 1, "r 0");
            Samples.program(x, 2, "j 0");
            x.setMonitor(0, true);
            for (int run = 0; run < 2; run++) {
                x.begin(1);
                for (int i = 0; i < before; i++) {
                    Expect.same("db", Samples.steps(x, "21"));
                }
                Expect.thrown(Expect.ELEMENT, () -> x.blamedAt(0));
                Expect.same('v', x.step(0));
                Expect.same(before, x.blamedAt(0));
                Expect.same("dc", Samples.steps(x, "21"));
                Expect.same(before, x.blamedAt(0));
                Expect.same(before + 3, x.close());
            }
        }
    }

    /** Promise 32: a party that runs, has ended, has failed, or is cancelled in another way, was not blamed. */
    private static void notBlamed() {
        World world = new World(() -> {
            QuantityQuarry x = Samples.ended(4);
            Samples.program(x, 0, "e");
            Samples.program(x, 1, "r 0");
            Samples.program(x, 3, "j 0");
            for (int party = 0; party < 4; party++) {
                x.setMonitor(party, true);
            }
            x.begin(1);
            Expect.same("ecxd", Samples.steps(x, "0123"));
            return x;
        });
        for (int party = 0; party < 4; party++) {
            int asked = party;
            world.refuses(Expect.ELEMENT, x -> x.blamedAt(asked));
        }
        World cancelled = new World(() -> {
            QuantityQuarry x = world.make();
            x.cancel(3);
            return x;
        });
        cancelled.refuses(Expect.ELEMENT, x -> x.blamedAt(3));
        World off = new World(() -> {
            QuantityQuarry x = language();
            Samples.program(x, 0, "s 2 1 -1", "e");
            x.begin(1);
            Expect.same("de", Samples.steps(x, "00"));
            return x;
        });
        off.refuses(Expect.ELEMENT, x -> x.blamedAt(0));
        off.refuses(Expect.ELEMENT, x -> x.stateOf(0));
    }

    /** 'Steps that are blocked, fail, or are cancelled for want of a message are not looked at', nor others. */
    private static void notLookedAt() {
        sends('x', 0, "s 2 1 0");
        sends('x', 0, "n 0", "n 0");
        sends('x', 1, "s 1 5 -1", "u 0");
        sends('b', 0, "r 2");
        sends('b', 1, "s 1 5 -1", "r 1");
        sends('d', 0, "n 0", "m 0 1", "u 1", "d 0 4", "j 4");
        QuantityQuarry full = language();
        Samples.program(full, 0, "s 1 5 -1", "s 1 5 -1");
        full.setMonitor(0, true);
        full.begin(1);
        Expect.same("db", Samples.steps(full, "00"));
        Expect.same(1, full.stateOf(0));
        full.cancel(1);
        Expect.same('v', full.step(0));
        Expect.same(1, full.blamedAt(0));
        QuantityQuarry wants = language();
        Samples.program(wants, 0, "r 2");
        wants.setMonitor(0, true);
        wants.begin(1);
        Expect.same("bxc", Samples.steps(wants, "020"));
        Expect.thrown(Expect.ELEMENT, () -> wants.blamedAt(0));
        Expect.same(0, wants.stateOf(0));
        failsAheadOfTheMonitor("s 0 0 -1", "r 1", "? 1 -1 0");
        failsAheadOfTheMonitor("s 0 0 -1", "r 1", "? 0 3 0");
        failsAheadOfTheMonitor("s 0 0 3", "r 1", "? 0 -1 0");
        failsAheadOfTheMonitor("s 0 0 3", "r 1", "? 0 0 0");
    }

    /** Party 0, whose state sends, would receive, and fails for another reason: it is not blamed. */
    private static void failsAheadOfTheMonitor(String send, String... receive) {
        QuantityQuarry x = language();
        Samples.program(x, 0, "n 0");
        Samples.program(x, 0, receive);
        Samples.program(x, 1, "n 3", send);
        x.setMonitor(0, true);
        x.begin(1);
        Expect.same("dddx", Samples.steps(x, "0110"));
        Expect.same('x', x.condition(0));
        Expect.thrown(Expect.ELEMENT, () -> x.blamedAt(0));
    }
}
