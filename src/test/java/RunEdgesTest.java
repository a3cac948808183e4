/** The boundary cases of promises 20 to 34, but for monitors, which stand in MonitorEdgesTest. */
public final class RunEdgesTest {
    /** The calls that are about a party of a run, also with a second number that is wrong where no exception is due. */
    private static final World.OfParty[] OF_RUN = {QuantityQuarry::step, QuantityQuarry::cancel,
        QuantityQuarry::condition, QuantityQuarry::at, QuantityQuarry::stateOf, QuantityQuarry::blamedAt,
        (x, party) -> x.cellIn(party, 0),
        (x, party) -> x.number(party, 1), (x, party) -> x.queued(party, 0), (x, party) -> x.queued(0, party),
        (x, party) -> x.messageAt(party, 0, 0), (x, party) -> x.messageAt(0, party, -1)};

    public static void main(String[] args) {
        beginCapacity();
        beginStates();
        runBegins();
        close();
        wrongParties();
        wrongNamesAndNumbers();
        noRun();
        partiesThatDoNotRun();
        cellInNames();
        messagesOfAQueue();
        firstInFirstOut();
        fullAndEmptyQueues();
        capacityOfEachRun();
        queuesOfPartiesThatDoNotRun();
        stepsOffTheProgram();
        countingDown();
        moves();
        fiftyTwoCells();
        cellsUsedAgain();
        cancelFreesAll();
        stuckStates();
        Expect.finish();
    }

    // ---- begin and close

    /** Promise 21: 1 to 3, ahead of a protocol that is not whole, and of a run. */
    private static void beginCapacity() {
        World bare = new World(QuantityQuarry::new);
        World open = new World(Samples::pingPong);
        for (int wrong : Ints.outside(1, 3)) {
            World.allRefuse(Expect.ARGUMENT, x -> x.begin(wrong), bare, open, open.begun());
        }
        for (int capacity : Ints.inside(1, 3)) {
            World.allRefuse(Expect.STATE, x -> x.begin(capacity), bare, open.begun());
            open.answers(2, x -> x.begin(capacity));
        }
    }

    /** Promise 21: each of the three states in which no run begins, and the number of parties where one does. */
    private static void beginStates() {
        World noStart = new World(() -> {
            QuantityQuarry x = Samples.parties(2);
            x.addEnd();
            return x;
        });
        World noBranch = new World(() -> {
            QuantityQuarry x = Samples.pingPong();
            x.addMessage(0, 1);
            return x;
        });
        World.allRefuse(Expect.STATE, x -> x.begin(1), noStart, noBranch);
        World.allRefuse(Expect.ARGUMENT, x -> x.begin(0), noStart, noBranch);
        World.allRefuse(Expect.ARGUMENT, x -> x.begin(4), noStart, noBranch);
        for (int parties = 0; parties <= 4; parties++) {
            int count = parties;
            World world = new World(() -> Samples.ended(count));
            world.answers(count, x -> x.begin(1));
            world.begun().refuses(Expect.STATE, x -> x.begin(3));
            Expect.same(0, world.begun().make().close());
        }
    }

    /** 'each party is at an instruction, 0 at first, and runs'; queues and names are empty, all cells free. */
    private static void runBegins() {
        QuantityQuarry x = Samples.ended(4);
        Samples.program(x, 0, "j 3", "e", "e", "n 0", "s 3 5 0", "n 1");
        x.setNumber(2, 1, 9);
        for (int run = 0; run < 2; run++) {
            x.begin(3);
            for (int party = 0; party < 4; party++) {
                Expect.same(0, x.at(party));
                Expect.same('r', x.condition(party));
                Expect.same(0, x.number(party, 0));
                Expect.same(party == 2 ? 9 : 0, x.number(party, 1));
                for (int other = 0; other < 4; other++) {
                    Expect.same(0, x.queued(party, other));
                    int name = other;
                    int asked = party;
                    Expect.thrown(Expect.ELEMENT, () -> x.cellIn(asked, name));
                }
            }
            Expect.same(0, x.cellsInUse());
            Expect.same("ddddx", Samples.steps(x, "00001"));
            Expect.same(2, x.cellsInUse());
            x.close();
        }
    }

    /** Promise 22: no run at first, none behind a close; none of the steps of the run before is counted. */
    private static void close() {
        World open = new World(Samples::pingPong);
        open.refuses(Expect.STATE, x -> x.close());
        new World(() -> {
            QuantityQuarry x = Samples.pingPong();
            x.begin(1);
            x.step(0);
            x.close();
            return x;
        }).refuses(Expect.STATE, x -> x.close());
        QuantityQuarry x = Samples.pingPong();
        String[][] runs = {{"", ""}, {"1", "b"}, {"0", "d"}, {"11", "bb"}, {"1010110", "bdbddee"}};
        int[] due = {0, 0, 1, 0, 5};
        for (int run = 0; run < runs.length; run++) {
            x.begin(1);
            Expect.same(runs[run][1], Samples.steps(x, runs[run][0]));
            Expect.same(due[run], x.close());
        }
        Expect.same(6L, x.steps());
    }

    // ---- refused calls

    /** Wrong parties, with each number of them, ahead of a missing run, and of all else. */
    private static void wrongParties() {
        World.refuseWrongParties(OF_RUN);
        World.refuseWrongParties((x, party) -> x.cellIn(party, -1), (x, party) -> x.number(party, 2),
                (x, party) -> x.queued(party, party), (x, party) -> x.messageAt(party, party, 0));
    }

    /** Promises 27 and 28: names 0 to 3 and numbers 0 and 1, ahead of a missing run. */
    private static void wrongNamesAndNumbers() {
        World bare = new World(() -> Samples.parties(2));
        World open = new World(() -> Samples.ended(2));
        for (int party = 0; party < 2; party++) {
            int asked = party;
            for (int wrong : Ints.outside(0, 3)) {
                World.allRefuse(Expect.INDEX, x -> x.cellIn(asked, wrong), bare, open, open.begun());
            }
            for (int wrong : Ints.outside(0, 1)) {
                World.allRefuse(Expect.INDEX, x -> x.number(asked, wrong), bare, open, open.begun());
            }
            for (int name : Ints.inside(0, 3)) {
                World.allRefuse(Expect.STATE, x -> x.cellIn(asked, name), bare, open);
                open.begun().refuses(Expect.ELEMENT, x -> x.cellIn(asked, name));
            }
            for (int number : Ints.inside(0, 1)) {
                World.allRefuse(Expect.STATE, x -> x.number(asked, number), bare, open);
                open.begun().answers(0, x -> x.number(asked, number));
            }
        }
    }

    /** A run that was closed behind a party that ended, one that was cancelled, and a cell in a name and a queue. */
    private static QuantityQuarry closed() {
        QuantityQuarry x = inTheMiddle();
        x.close();
        return x;
    }

    /** Party 0 holds a cell and has sent one, party 1 runs, party 2 has ended, party 3 is cancelled. */
    private static QuantityQuarry inTheMiddle() {
        QuantityQuarry x = Samples.ended(4);
        Samples.program(x, 0, "n 0", "s 1 0 0", "n 3", "j 3");
        Samples.program(x, 1, "j 0");
        Samples.program(x, 2, "e");
        Samples.program(x, 3, "j 0");
        x.begin(2);
        Samples.steps(x, "0002");
        x.cancel(3);
        return x;
    }

    /** No run has begun, or it was closed: that is told ahead of what the run would refuse. */
    private static void noRun() {
        for (World world : new World[] {new World(() -> Samples.ended(4)), new World(RunEdgesTest::closed)}) {
            for (int party = 0; party < 4; party++) {
                int asked = party;
                for (World.OfParty call : OF_RUN) {
                    world.refuses(Expect.STATE, x -> call.on(x, asked));
                }
                world.refuses(Expect.STATE, x -> x.messageAt(asked, asked, 9));
            }
            world.refuses(Expect.STATE, x -> x.cellsInUse());
            world.refuses(Expect.STATE, x -> x.isStuck());
            world.refuses(Expect.STATE, x -> x.search());
            world.refuses(Expect.STATE, x -> x.reached());
            world.refuses(Expect.STATE, x -> x.close());
        }
    }

    /** Promises 23 and 24: a party that has ended, is cancelled by any way, or has failed, does not run. */
    private static void partiesThatDoNotRun() {
        World middle = new World(RunEdgesTest::inTheMiddle);
        for (int party = 2; party < 4; party++) {
            int asked = party;
            middle.refuses(Expect.UNSUPPORTED, x -> x.step(asked));
            middle.refuses(Expect.UNSUPPORTED, x -> x.cancel(asked));
        }
        World others = new World(() -> {
            QuantityQuarry x = Samples.ended(3);
            Samples.program(x, 0, "r 1");
            Samples.program(x, 2, "s 0 0 -1");
            x.setMonitor(2, true);
            x.begin(1);
            Expect.same("xcv", Samples.steps(x, "102"));
            return x;
        });
        for (int party = 0; party < 3; party++) {
            int asked = party;
            others.answers("cxc".charAt(party), x -> x.condition(asked));
            others.refuses(Expect.UNSUPPORTED, x -> x.step(asked));
            others.refuses(Expect.UNSUPPORTED, x -> x.cancel(asked));
        }
        middle.answers('e', x -> x.condition(2));
        middle.answers('c', x -> x.condition(3));
        middle.answers(2, x -> x.cellsInUse());
        middle.answers(1, x -> x.cancel(0));
        middle.answers(1, x -> x.cancel(1));
    }

    /** Promise 27: each name of each party, with a cell and without. */
    private static void cellInNames() {
        for (int name : Ints.inside(0, 3)) {
            World world = new World(() -> {
                QuantityQuarry x = Samples.ended(4);
                for (int party = 0; party < 4; party++) {
                    Samples.program(x, party, "n " + name, "j 1");
                }
                x.begin(1);
                Samples.steps(x, "3210");
                return x;
            });
            for (int party = 0; party < 4; party++) {
                int asked = party;
                for (int other : Ints.inside(0, 3)) {
                    if (other == name) {
                        world.answers(3 - asked, x -> x.cellIn(asked, other));
                    } else {
                        world.refuses(Expect.ELEMENT, x -> x.cellIn(asked, other));
                    }
                }
            }
        }
    }

    // ---- queues

    /** Promise 30: indices from 0 to one less than the messages there are, for each length of a queue. */
    private static void messagesOfAQueue() {
        for (int length = 0; length <= 3; length++) {
            int count = length;
            World world = new World(() -> {
                QuantityQuarry x = Samples.ended(3);
                Samples.program(x, 2, "n 0", "s 0 5 0", "s 0 4 -1", "n 0", "s 0 0 0");
                x.begin(3);
                Samples.steps(x, new String[] {"2", "22", "222", "22222"}[count]);
                return x;
            });
            world.answers(count, x -> x.queued(2, 0));
            world.answers(0, x -> x.queued(0, 2));
            for (int wrong : Ints.outside(0, count - 1)) {
                world.refuses(Expect.ELEMENT, x -> x.messageAt(2, 0, wrong));
            }
            for (int index = 0; index < count; index++) {
                int asked = index;
                world.answers(new int[] {501, 400, 2}[index], x -> x.messageAt(2, 0, asked));
                world.refuses(Expect.ELEMENT, x -> x.messageAt(0, 2, asked));
                world.refuses(Expect.ELEMENT, x -> x.messageAt(2, 1, asked));
            }
            for (int party = 0; party < 3; party++) {
                int same = party;
                world.answers(0, x -> x.queued(same, same));
                world.refuses(Expect.ELEMENT, x -> x.messageAt(same, same, 0));
            }
        }
    }

    /** Three messages of the labels 0 and 5, each with a cell or without: they come as they were sent. */
    private static void firstInFirstOut() {
        for (int kinds = 0; kinds < 64; kinds++) {
            QuantityQuarry x = Samples.ended(2);
            int[] due = new int[3];
            int cells = 0;
            for (int i = 0; i < 3; i++) {
                int kind = kinds >> 2 * i & 3;
                int label = kind % 2 * 5;
                boolean hasCell = kind >= 2;
                due[i] = 100 * label + (hasCell ? i + 1 : 0);
                cells += hasCell ? 1 : 0;
                Samples.program(x, 0, "n " + i);
                Samples.program(x, 1, "r 0", "? " + label + " " + (hasCell ? i : -1) + " " + (i + 1));
            }
            for (int i = 0; i < 3; i++) {
                Samples.program(x, 0, "s 1 " + due[i] / 100 + " " + (due[i] % 100 == 0 ? -1 : i));
            }
            x.begin(3);
            Samples.steps(x, "000000");
            for (int i = 0; i < 3; i++) {
                Expect.same(3 - i, x.queued(0, 1));
                for (int index = 0; index < 3 - i; index++) {
                    Expect.same(due[i + index], x.messageAt(0, 1, index));
                }
                Expect.same('d', x.step(1));
                if (due[i] % 100 != 0) {
                    Expect.same(i, x.cellIn(1, i));
                }
            }
            Expect.same(0, x.queued(0, 1));
            Expect.same(true, x.isConsistent());
            Expect.same(cells, x.cancel(1));
        }
    }

    /** 'blocked if it would send into a full queue of a party that runs, or receive from an empty queue' of one. */
    private static void fullAndEmptyQueues() {
        for (int capacity = 1; capacity <= 3; capacity++) {
            QuantityQuarry x = Samples.ended(3);
            Samples.program(x, 0, "s 2 0 -1", "j 0");
            Samples.program(x, 1, "s 2 0 -1", "j 0");
            Samples.program(x, 2, "r 0", "? 0 -1 0", "r 1", "? 0 -1 1");
            x.begin(capacity);
            Expect.same('b', x.step(2));
            for (int round = 0; round < 3; round++) {
                for (int i = x.queued(0, 2); i < capacity; i++) {
                    Expect.same("dd", Samples.steps(x, "00"));
                    Expect.same(i + 1, x.queued(0, 2));
                }
                Expect.same("bb", Samples.steps(x, "00"));
                Expect.same(capacity, x.queued(0, 2));
                Expect.same(0, x.at(0));
                Expect.same("d", Samples.steps(x, "2"));
                Expect.same(capacity - 1, x.queued(0, 2));
                Expect.same(0, x.queued(1, 2) + x.queued(2, 0));
            }
            Expect.same("dd".repeat(capacity) + "b", Samples.steps(x, "11".repeat(capacity) + "1"));
            for (int i = capacity; i > 1; i--) {
                Expect.same("d", Samples.steps(x, "2"));
            }
            Expect.same("b", Samples.steps(x, "2"));
            Expect.same(0, x.at(2));
        }
    }

    /** The capacity is the one of this run, whatever the runs before had, and holds for each queue. */
    private static void capacityOfEachRun() {
        for (int distance = 1; distance < 4; distance++) {
            QuantityQuarry x = Samples.ended(4);
            for (int party = 0; party < 4; party++) {
                Samples.program(x, party, "s " + (party + distance) % 4 + " 1 -1", "j 0");
            }
            for (int capacity : new int[] {3, 1, 2, 1, 3}) {
                x.begin(capacity);
                for (int party = 0; party < 4; party++) {
                    String due = "dd".repeat(capacity) + "b";
                    Expect.same(due, Samples.steps(x, ("" + party).repeat(due.length())));
                    Expect.same(capacity, x.queued(party, (party + distance) % 4));
                }
                Expect.same(8 * capacity, x.close());
            }
        }
    }

    /** 'What is sent to a party that does not run is lost, and its cell is free again', however full its queue was. */
    private static void queuesOfPartiesThatDoNotRun() {
        for (char way : new char[] {'e', 'x', 'c', 'v', 'w'}) {
            QuantityQuarry x = Samples.ended(3);
            Samples.program(x, 0, "n 0", "s 1 0 0", "n 0", "s 1 0 0", "n 0", "s 1 5 0", "s 1 0 -1", "e");
            Samples.program(x, 1, way == 'e' ? "e" : way == 'x' ? "u 0" : way == 'w' ? "r 2" : "s 2 0 -1");
            x.setMonitor(1, way == 'v');
            x.begin(1);
            Expect.same("dddb", Samples.steps(x, "0000"));
            Expect.same(2, x.cellsInUse());
            if (way == 'c') {
                Expect.same(1, x.cancel(1));
            } else {
                x.step(2);
                Expect.same(way == 'w' ? 'c' : way, x.step(1));
            }
            Expect.same(1, x.cellsInUse());
            Expect.same(0, x.queued(0, 1));
            Expect.same(1, x.cellIn(0, 0));
            Expect.same("d", Samples.steps(x, "0"));
            Expect.same(0, x.cellsInUse());
            Expect.same(0, x.queued(0, 1));
            Expect.same("ddde", Samples.steps(x, "0000"));
            Expect.same(0, x.queued(0, 1));
            Expect.same(true, x.isConsistent());
        }
    }

    // ---- instructions

    /** 'there is no such instruction': behind the last one, up to 20, or where a jump or a case leads. */
    private static void stepsOffTheProgram() {
        for (int count = 0; count <= 20; count++) {
            QuantityQuarry x = Samples.ended(1);
            for (int i = 0; i < count; i++) {
                x.add(0, i % 2 == 0 ? 'n' : 'u', 2, 0, 0);
            }
            x.begin(1);
            for (int i = 0; i < count; i++) {
                Expect.same('d', x.step(0));
            }
            Expect.same(count, x.at(0));
            Expect.same(count % 2, x.cellsInUse());
            Expect.same('x', x.step(0));
            Expect.same(count, x.at(0));
            Expect.same('x', x.condition(0));
            Expect.same(0, x.cellsInUse());
            Expect.same(count + 1, x.close());
        }
        for (int target = 0; target < 20; target++) {
            QuantityQuarry x = Samples.ended(1);
            Samples.program(x, 0, "d 1 " + target);
            x.begin(1);
            Expect.same('d', x.step(0));
            Expect.same(target, x.at(0));
            Expect.same(target == 0 ? 'd' : 'x', x.step(0));
            Expect.same(target, x.at(0));
        }
    }

    /** 'goes on at the instruction b if the number a is 0, and otherwise makes it 1 less', from 0 and from 9. */
    private static void countingDown() {
        for (int number = 0; number < 2; number++) {
            for (int value = 0; value <= 9; value++) {
                QuantityQuarry x = Samples.ended(1);
                Samples.program(x, 0, "d " + number + " 19", "j 0");
                x.setNumber(0, number, value);
                x.setNumber(0, 1 - number, 5);
                x.begin(1);
                for (int left = value; left > 0; left--) {
                    Expect.same(left, x.number(0, number));
                    Expect.same("d", Samples.steps(x, "0"));
                    Expect.same(1, x.at(0));
                    Expect.same("d", Samples.steps(x, "0"));
                }
                Expect.same(0, x.number(0, number));
                Expect.same("d", Samples.steps(x, "0"));
                Expect.same(19, x.at(0));
                Expect.same(0, x.number(0, number));
                Expect.same(5, x.number(0, 1 - number));
                Expect.same("x", Samples.steps(x, "0"));
                Expect.same(0, x.number(0, number));
                Expect.same(2 * value + 2, x.close());
                Expect.same(value, x.setNumber(0, number, 0));
            }
        }
    }

    /** Moves from each name into each one, with each of the two held or not. */
    private static void moves() {
        for (int from : Ints.inside(0, 3)) {
            for (int into : Ints.inside(0, 3)) {
                for (int held = 0; held < 4; held++) {
                    QuantityQuarry x = Samples.ended(1);
                    Samples.program(x, 0, held % 2 == 1 ? "n " + from : "j 1");
                    Samples.program(x, 0, held >= 2 && from != into ? "n " + into : "j 2", "m " + from + " " + into);
                    x.begin(1);
                    Samples.steps(x, "00");
                    boolean isRight = held == 1 && from != into;
                    Expect.same(isRight ? 'd' : 'x', x.step(0));
                    Expect.same(isRight ? 1 : 0, x.cellsInUse());
                    Expect.same(isRight ? 3 : 2, x.at(0));
                    if (isRight) {
                        Expect.same(0, x.cellIn(0, into));
                        Expect.thrown(Expect.ELEMENT, () -> x.cellIn(0, from));
                    }
                }
            }
        }
    }

    /** The most cells that there can be: 4 names of each of 4 parties, and 3 messages in each of 12 queues. */
    private static void fiftyTwoCells() {
        QuantityQuarry x = Samples.ended(4);
        for (int party = 0; party < 4; party++) {
            Samples.program(x, party, "d 0 8");
            for (int other = 1; other < 4; other++) {
                Samples.program(x, party, "n 0", "s " + (party + other) % 4 + " 5 0");
            }
            Samples.program(x, party, "j 0", "n 0", "n 1", "n 2", "n 3", "n 3");
            x.setNumber(party, 0, 3);
        }
        x.begin(3);
        for (int party = 0; party < 4; party++) {
            for (int i = 0; i < 8 * 3 + 1 + 4; i++) {
                Expect.same('d', x.step(party));
            }
        }
        Expect.same(52, x.cellsInUse());
        Expect.same(true, x.isConsistent());
        Expect.same(0 + 1 + 500, x.messageAt(0, 1, 0));
        Expect.same(47 + 1 + 500, x.messageAt(3, 2, 2));
        Expect.same(51, x.cellIn(3, 3));
        Expect.same(9, x.cellIn(0, 0));
        for (int party = 0; party < 4; party++) {
            for (int other = 0; other < 4; other++) {
                Expect.same(party == other ? 0 : 3, x.queued(party, other));
            }
        }
        Expect.same('x', x.step(0));
        Expect.same(52 - 13, x.cellsInUse());
        Expect.same(13, x.cancel(1));
        Expect.same(13, x.cancel(3));
        Expect.same(13, x.cellsInUse());
        Expect.same(true, x.isConsistent());
        Expect.same(13, x.cancel(2));
        Expect.same(0, x.cellsInUse());
    }

    /** 'a new cell is the free one with the lowest number', whichever cell was used up. */
    private static void cellsUsedAgain() {
        for (int free = 0; free < 8; free++) {
            QuantityQuarry x = Samples.ended(2);
            for (int party = 0; party < 2; party++) {
                Samples.program(x, party, "n 0", "n 1", "n 2", "n 3");
                int name = free % 4;
                Samples.program(x, party, "u " + name, "n " + name, "e");
            }
            x.begin(1);
            Samples.steps(x, "00001111");
            Expect.same(8, x.cellsInUse());
            int party = free / 4;
            Expect.same(free, x.cellIn(party, free % 4));
            Expect.same('d', x.step(party));
            Expect.same(7, x.cellsInUse());
            Expect.same('d', x.step(party));
            Expect.same(free, x.cellIn(party, free % 4));
            Expect.same("dde", Samples.steps(x, party == 0 ? "110" : "001"));
            Expect.same(4, x.cellsInUse());
        }
    }

    /** Promise 24: 0 for a party that holds nothing, and all that it holds and what is in the queues to it. */
    private static void cancelFreesAll() {
        for (int held = 0; held <= 4; held++) {
            for (int queued = 0; queued <= 3; queued++) {
                QuantityQuarry x = Samples.ended(3);
                for (int name = 0; name < held; name++) {
                    Samples.program(x, 1, "n " + name);
                }
                Samples.program(x, 1, "j " + held);
                for (int i = 0; i < 3; i++) {
                    Samples.program(x, 2, "n 0", i < queued ? "s 1 0 0" : "u 0");
                }
                Samples.program(x, 2, "s 0 0 -1", "n 0", "s 0 1 0");
                x.begin(3);
                Samples.steps(x, "11111" + "222222222");
                Expect.same(held + queued + 1, x.cellsInUse());
                Expect.same(held + queued, x.cancel(1));
                Expect.same(1, x.cellsInUse());
                Expect.same(0, x.queued(2, 1));
                Expect.same(2, x.queued(2, 0));
                Expect.same(0, x.cancel(2));
                Expect.same(2, x.queued(2, 0));
                Expect.same(1, x.cancel(0));
                Expect.same(0, x.queued(2, 0));
                Expect.same(14, x.close());
            }
        }
    }

    /** 'a party runs, and the step of each party that runs is blocked': no party, one, and all that run. */
    private static void stuckStates() {
        for (int blocked = 0; blocked < 16; blocked++) {
            QuantityQuarry x = Samples.ended(4);
            for (int party = 0; party < 4; party++) {
                Samples.program(x, party, (blocked >> party & 1) != 0 ? "r " + (party + 1) % 4 : "j 0");
            }
            x.begin(1);
            Expect.same(blocked == 15, x.isStuck());
            for (int party = 0; party < 4; party++) {
                if ((blocked >> party & 1) == 0) {
                    x.cancel(party);
                }
            }
            Expect.same(blocked == 15, x.isStuck());
            for (int party = 0; party < 4; party++) {
                if (x.condition(party) == 'r') {
                    x.cancel(party);
                }
            }
            Expect.same(false, x.isStuck());
        }
        QuantityQuarry one = Samples.ended(1);
        one.begin(1);
        Expect.same(false, one.isStuck());
        one.step(0);
        Expect.same(false, one.isStuck());
        QuantityQuarry none = Samples.ended(0);
        none.begin(1);
        Expect.same(false, none.isStuck());
    }
}
