/** The boundary cases of promises 35 and 36: exactly 1000 states, more, one alone, and what makes two of one. */
public final class SearchEdgesTest {
    public static void main(String[] args) {
        noRun();
        oneStateAlone();
        thousandAndMore();
        moreThanThousandFromSomeStatesAlone();
        eachPartOfAState();
        stuckStatesAreCounted();
        Expect.finish();
    }

    private static void refuse(Class<? extends RuntimeException> due, World world) {
        world.refuses(due, x -> x.search());
        world.refuses(due, x -> x.reached());
    }

    private static void tell(int stuck, int reached, World world) {
        world.tells(stuck, x -> x.search());
        world.tells(reached, x -> x.reached());
        world.tells(reached, x -> {
            x.search();
            return x.reached();
        });
        world.tells(stuck, x -> {
            x.reached();
            return x.search();
        });
    }

    private static World closed(World world) {
        return new World(() -> {
            QuantityQuarry x = world.make();
            x.close();
            return x;
        });
    }

    /** 'no run has begun', also where a run that was closed had too many states, or was never whole. */
    private static void noRun() {
        refuse(Expect.STATE, new World(QuantityQuarry::new));
        refuse(Expect.STATE, new World(() -> Samples.ended(4)));
        refuse(Expect.STATE, new World(Samples::pingPong));
        refuse(Expect.STATE, closed(apart(10, 10, 10)));
        refuse(Expect.STATE, closed(apart(7, 11, 13)));
        refuse(Expect.STATE, closed(new World(() -> {
            QuantityQuarry x = Samples.apart(7, 11, 13);
            Expect.thrown(Expect.UNSUPPORTED, x::search);
            return x;
        })));
    }

    private static World apart(int... states) {
        return new World(() -> Samples.apart(states));
    }

    /** 'this one included': it is the only one where no party is, none runs, or none goes on. */
    private static void oneStateAlone() {
        tell(0, 1, new World(() -> Samples.ended(0)).begun());
        for (int parties = 1; parties <= 4; parties++) {
            int count = parties;
            tell(0, 1, new World(() -> {
                QuantityQuarry x = Samples.ended(count);
                for (int party = 0; party < count; party++) {
                    x.add(party, 'j', 0, 0, 0);
                }
                x.begin(1);
                return x;
            }));
            World waiting = new World(() -> {
                QuantityQuarry x = Samples.ended(count);
                for (int party = 0; party < count; party++) {
                    x.add(party, count == 1 ? 'e' : 'r', count == 1 ? 0 : (party + 1) % count, 0, 0);
                }
                x.begin(1);
                return x;
            });
            tell(count == 1 ? 0 : 1, count == 1 ? 2 : 1, waiting);
            tell(0, 1, new World(() -> {
                QuantityQuarry x = waiting.make();
                for (int party = 0; party < count; party++) {
                    x.cancel(party);
                }
                return x;
            }));
        }
    }

    /** Exactly 1000 states are told, 1001 and more are not, for two, three and four parties. */
    private static void thousandAndMore() {
        tell(0, 1000, apart(10, 10, 10));
        tell(0, 1000, apart(2, 20, 5, 5));
        tell(0, 1000, apart(4, 5, 5, 10));
        tell(0, 999, tail(4));
        tell(1, 1000, stuckTail(5));
        tell(0, 1000, tail(5));
        refuse(Expect.UNSUPPORTED, tail(6));
        refuse(Expect.UNSUPPORTED, stuckTail(6));
        refuse(Expect.UNSUPPORTED, tail(7));
        refuse(Expect.UNSUPPORTED, apart(7, 11, 13));
        refuse(Expect.UNSUPPORTED, apart(20, 20, 20, 20));
    }

    private static World tail(int jumps) {
        return withTail(jumps, "j " + (jumps + 3));
    }

    private static World stuckTail(int jumps) {
        return withTail(jumps, "r 0");
    }

    private static World withTail(int jumps, String last) {
        return new World(() -> Samples.withTail(jumps, last));
    }

    /** From the first state there are 1001, from others fewer: each call looks from where the run is. */
    private static void moreThanThousandFromSomeStatesAlone() {
        QuantityQuarry x = Samples.apart(7, 11, 13);
        Expect.thrown(Expect.UNSUPPORTED, x::reached);
        x.step(2);
        Expect.same(7 * 11 * 12, x.reached());
        x.step(0);
        Expect.same(6 * 11 * 12, x.reached());
        Expect.same(0, x.search());
        x.cancel(1);
        Expect.same(6 * 12, x.reached());
        x.close();
        x.begin(1);
        Expect.thrown(Expect.UNSUPPORTED, x::search);
        x.cancel(2);
        Expect.same(7 * 11, x.reached());
        x.close();
        x.setNumber(0, 0, 1);
        x.begin(3);
        Expect.thrown(Expect.UNSUPPORTED, x::reached);
    }

    private static World ended(int number, String[]... programs) {
        return new World(() -> {
            QuantityQuarry x = Samples.ended(programs.length);
            for (int party = 0; party < programs.length; party++) {
                Samples.program(x, party, programs[party]);
                x.setNumber(party, 0, number);
                x.setNumber(party, 1, number);
            }
            x.begin(2);
            return x;
        });
    }

    /** Two states of which one part alone is not the same are two. */
    private static void eachPartOfAState() {
        String[] waits = {"r 0"};
        tell(0, 2, ended(0, new String[] {"j 1", "j 0"}));
        tell(0, 3, ended(0, new String[] {"e"}, waits));
        tell(0, 2 * 9 + 1, ended(9, new String[] {"d 0 0", "j 0"}));
        tell(0, 2 * 9 + 1, ended(9, new String[] {"d 1 0", "j 0"}));
        tell(0, 2 * 18 + 2, ended(9, new String[] {"d 0 2", "j 0", "d 1 2", "j 2"}));
        tell(0, 7, ended(0, new String[] {"n 0", "j 2", "m 0 1", "j 1"}));
        tell(0, 5, ended(0, new String[] {"n 0", "j 1"}, new String[] {"n 3", "j 1"}));
        tell(1, 5, ended(0, new String[] {"s 1 0 -1", "j 0"}, new String[] {"r 2"}, new String[] {"r 1"}));
        String[] takes = {"r 0", "? 0 -1 0", "? 1 -1 0"};
        tell(0, 9, ended(0, new String[] {"s 1 0 -1", "s 1 1 -1", "j 0"}, takes));
        tell(0, 15, ended(1, new String[] {"d 0 3", "s 1 0 -1", "j 0", "s 1 1 -1", "j 3"}, takes));
        tell(0, 3 * 2, ended(0, new String[] {"j 1", "j 2", "j 0"}, new String[] {"j 1", "j 0"}));
    }

    /** None, one, and as many as there are orders of cells. */
    private static void stuckStatesAreCounted() {
        String[][] waits = {{"n 0", "r 1"}, {"n 0", "r 2"}, {"n 0", "r 0"}};
        tell(6, 1 + 3 + 6 + 6, ended(0, waits));
        tell(2, 1 + 2 + 2, ended(0, new String[] {"n 0", "r 1"}, new String[] {"n 1", "r 0"}));
        tell(1, 1 + 2 + 1, ended(0, new String[] {"j 1", "r 1"}, new String[] {"j 1", "r 0"}));
        tell(0, 1 + 2 + 1, ended(0, new String[] {"j 1", "j 1"}, new String[] {"j 1", "j 1"}));
    }
}
