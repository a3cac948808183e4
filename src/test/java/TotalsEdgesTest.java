/** The boundary cases of promises 37 to 40: no step, no party, no admitted one, none that is not refused. */
public final class TotalsEdgesTest {
    public static void main(String[] args) {
        stepsInAnyState();
        stepsOfEachSign();
        meansAndSharesOfNoWholeProtocol();
        noParties();
        allRefused();
        meansOfEachNumberOfParties();
        sharesOfEachNumberOfParties();
        consistentWithoutARun();
        consistentIfNotAllWereAdmitted();
        consistentIfOneWasCancelled();
        consistentIfAllAreAdmitted();
        Expect.finish();
    }

    /** Promise 37: 0 at first; no state in which it throws; the steps stay behind a close and a run anew. */
    private static void stepsInAnyState() {
        new World(QuantityQuarry::new).tells(0L, x -> x.steps());
        new World(() -> Samples.parties(4)).tells(0L, x -> x.steps());
        World open = new World(Samples::pingPong);
        open.tells(0L, x -> x.steps());
        open.begun().tells(0L, x -> x.steps());
        QuantityQuarry x = Samples.pingPong();
        for (int run = 0; run < 30; run++) {
            x.begin(1 + run % 3);
            Expect.same("bdd", Samples.steps(x, "100"));
            Expect.same(2L * run + 2, x.steps());
            Expect.same(2, x.close());
            Expect.same(2L * run + 2, x.steps());
        }
        QuantityQuarry longRun = Samples.ended(1);
        Samples.program(longRun, 0, "j 0");
        longRun.begin(1);
        for (int i = 0; i < 500; i++) {
            longRun.step(0);
        }
        Expect.same(500L, longRun.steps());
        Expect.same(500, longRun.close());
    }

    /** Promise 37: steps of each sign but 'b' are counted, calls of cancel(), search() and reached() are not. */
    private static void stepsOfEachSign() {
        QuantityQuarry x = Samples.ended(4);
        Samples.program(x, 0, "r 1", "? 0 -1 1", "r 1");
        Samples.program(x, 1, "s 0 0 -1", "u 0");
        Samples.program(x, 2, "e");
        Samples.program(x, 3, "s 0 0 -1");
        x.setMonitor(3, true);
        x.begin(1);
        String[] signs = {"0b", "1d", "0d", "0b", "3v", "2e", "1x", "0c"};
        long made = 0;
        for (String sign : signs) {
            Expect.same(sign.charAt(1), x.step(sign.charAt(0) - '0'));
            made += sign.charAt(1) == 'b' ? 0 : 1;
            Expect.same(made, x.steps());
            x.search();
            x.reached();
            Expect.same(made, x.steps());
        }
        Expect.same(6, x.close());
        x.begin(1);
        x.cancel(0);
        Expect.same(6L, x.steps());
        Expect.same(0, x.close());
    }

    private static World without(World.Make language) {
        return new World(() -> {
            QuantityQuarry x = language.make();
            x.addMessage(0, 1);
            return x;
        });
    }

    /** Promises 38 and 39: no start, or a message without a branch, also without parties, or if all are refused. */
    private static void meansAndSharesOfNoWholeProtocol() {
        World[] worlds = {new World(QuantityQuarry::new), new World(() -> Samples.parties(4)),
            new World(() -> {
                QuantityQuarry x = new QuantityQuarry();
                x.addEnd();
                return x;
            }),
            without(() -> Samples.ended(2)), without(Samples::pingPong), without(TotalsEdgesTest::threeRefused)};
        World.allRefuse(Expect.STATE, x -> x.meanPlaces(), worlds);
        World.allRefuse(Expect.STATE, x -> x.admittedShare(), worlds);
    }

    private static void noParties() {
        World none = new World(() -> Samples.ended(0));
        World.allRefuse(Expect.ARITHMETIC, x -> x.meanPlaces(), none, none.begun());
        World.allRefuse(Expect.ARITHMETIC, x -> x.admittedShare(), none, none.begun());
    }

    /** Each of three parties does not learn what the two others choose. */
    private static QuantityQuarry threeRefused() {
        QuantityQuarry x = Samples.parties(3);
        Samples.nodes(x, "01", "12", "01", "02", "01", "e");
        Samples.branches(x, "0 0 1", "0 1 5", "1 0 2", "1 1 5", "1 2 3", "2 0 5", "3 0 4", "3 1 5", "4 0 5");
        x.setStart(0);
        return x;
    }

    /** Promise 38: no mean, but promise 39: a share of 0; a fourth party has no messages and is not refused. */
    private static void allRefused() {
        World three = new World(TotalsEdgesTest::threeRefused);
        World four = new World(() -> {
            QuantityQuarry x = threeRefused();
            x.addParty();
            Samples.program(x, 3, "n 0", "u 0", "e");
            return x;
        });
        for (int party = 0; party < 3; party++) {
            int asked = party;
            three.tells('e', x -> x.refusal(asked));
        }
        World.allRefuse(Expect.ARITHMETIC, x -> x.meanPlaces(), three, three.begun());
        three.tells(0.0f, x -> x.admittedShare());
        three.begun().tells(0.0f, x -> x.admittedShare());
        four.tells(3.0, x -> x.meanPlaces());
        four.tells(0.25f, x -> x.admittedShare());
    }

    /** Promise 38: with 1 to 4 parties, each with one place more than the one before; also of wrong places. */
    private static void meansOfEachNumberOfParties() {
        for (int parties = 1; parties <= 4; parties++) {
            QuantityQuarry x = Samples.ended(parties);
            int sum = 0;
            for (int party = 0; party < parties; party++) {
                for (int i = 0; i <= 2 * party; i++) {
                    x.add(party, 'j', i + 1, 0, 0);
                }
                sum += 2 * party + 2;
            }
            Expect.same((double) sum / (double) parties, x.meanPlaces());
            Expect.same(0.0f, x.admittedShare());
            for (int party = 0; party < parties; party++) {
                x.add(party, party % 2 == 0 ? 'e' : 'u', 0, 0, 0);
            }
            Expect.same((double) sum / (double) parties, x.meanPlaces());
            Expect.same((float) ((parties + 1) / 2) / (float) parties, x.admittedShare());
        }
        Expect.same(1.0, Samples.ended(4).meanPlaces());
        Expect.same(1.0, Samples.ended(1).meanPlaces());
    }

    /** Promise 39: none to all of 1 to 4 parties. */
    private static void sharesOfEachNumberOfParties() {
        for (int parties = 1; parties <= 4; parties++) {
            for (int admitted = 0; admitted <= parties; admitted++) {
                for (boolean areLast : new boolean[] {false, true}) {
                    QuantityQuarry x = Samples.ended(parties);
                    for (int i = 0; i < admitted; i++) {
                        x.add(areLast ? parties - 1 - i : i, 'e', 0, 0, 0);
                    }
                    Expect.same((float) admitted / (float) parties, x.admittedShare());
                    x.begin(1);
                    Expect.same((float) admitted / (float) parties, x.admittedShare());
                }
            }
        }
    }

    /** Promise 40: no run has begun, or it was closed, whatever came in it. */
    private static void consistentWithoutARun() {
        new World(QuantityQuarry::new).tells(true, x -> x.isConsistent());
        new World(() -> Samples.parties(4)).tells(true, x -> x.isConsistent());
        new World(Samples::pingPong).tells(true, x -> x.isConsistent());
        new World(() -> Samples.ended(0)).begun().tells(true, x -> x.isConsistent());
        new World(() -> {
            QuantityQuarry x = Samples.ended(2);
            x.begin(1);
            x.step(0);
            x.close();
            return x;
        }).tells(true, x -> x.isConsistent());
    }

    /** Promise 40: a party that is not admitted may fail, be cancelled, be blamed, and wait for ever. */
    private static void consistentIfNotAllWereAdmitted() {
        QuantityQuarry x = Samples.ended(4);
        Samples.program(x, 0, "r 1");
        Samples.program(x, 1, "s 2 0 -1");
        Samples.program(x, 2, "u 0");
        Samples.program(x, 3, "e");
        x.setMonitor(1, true);
        x.begin(1);
        for (String sign : new String[] {"0b", "2x", "1v", "0c", "3e"}) {
            Expect.same(sign.charAt(1), x.step(sign.charAt(0) - '0'));
            Expect.same(true, x.isConsistent());
        }
        QuantityQuarry stuck = Samples.ended(2);
        Samples.program(stuck, 0, "n 0", "r 1");
        Samples.program(stuck, 1, "r 0");
        stuck.begin(1);
        stuck.step(0);
        Expect.same(true, stuck.isStuck());
        Expect.same(true, stuck.isConsistent());
    }

    /** Promise 40: a call of cancel() may lead other admitted parties to be cancelled, or to be blocked for ever. */
    private static void consistentIfOneWasCancelled() {
        for (int cancelled = 0; cancelled < 2; cancelled++) {
            for (int steps = 0; steps < 8; steps++) {
                QuantityQuarry x = Samples.pingPong();
                x.setNumber(0, 0, 9);
                Expect.same(1.0f, x.admittedShare());
                x.begin(1);
                for (int i = 0; i < steps; i++) {
                    x.step(i / 4);
                    Expect.same(true, x.isConsistent());
                }
                int cells = x.cellsInUse();
                int freed = x.cancel(cancelled);
                Expect.same(cells - freed, x.cellsInUse());
                Expect.same(true, x.isConsistent());
                for (int i = 0; i < 9 && x.condition(1 - cancelled) == 'r'; i++) {
                    x.step(1 - cancelled);
                    Expect.same(true, x.isConsistent());
                }
                Expect.same('c', x.condition(1 - cancelled));
                Expect.same(0, x.cellsInUse());
                x.close();
                x.begin(1);
                Expect.same(true, x.isConsistent());
            }
        }
    }

    /** Promise 40: admitted parties, each order of few steps, with cells in names and in queues. */
    private static void consistentIfAllAreAdmitted() {
        for (int order = 0; order < 256; order++) {
            QuantityQuarry x = Samples.pingPong();
            x.setNumber(0, 0, 2);
            x.begin(1 + order % 3);
            for (int i = 0; i < 16; i++) {
                int party = i < 8 ? order >> i & 1 : i & 1;
                if (x.condition(party) == 'r') {
                    Expect.same(true, "dbe".indexOf(x.step(party)) >= 0);
                }
                Expect.same(true, x.isConsistent());
                Expect.same(false, x.isStuck());
            }
        }
    }
}
