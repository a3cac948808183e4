/** A language that is made anew for each call, so that what the call changes can be seen. */
final class World {
    interface Make {
        QuantityQuarry make();
    }

    interface Use {
        Object on(QuantityQuarry x);
    }

    interface OfParty {
        Object on(QuantityQuarry x, int party);
    }

    private final Make make;
    private String told;

    World(Make make) {
        this.make = make;
    }

    QuantityQuarry make() {
        return make.make();
    }

    /** The same language, in a run with queues of one message. */
    World begun() {
        return new World(() -> {
            QuantityQuarry x = make.make();
            x.begin(1);
            return x;
        });
    }

    void answers(Object due, Use call) {
        Expect.same(due, call.on(make.make()));
    }

    /** The call throws what is due, and what later calls show is as if it had not been made. */
    void refuses(Class<? extends RuntimeException> due, Use call) {
        QuantityQuarry x = make.make();
        Expect.thrown(due, () -> call.on(x));
        showsNoChange(x);
    }

    /** The call answers what is due, and what later calls show is as if it had not been made. */
    void tells(Object due, Use call) {
        QuantityQuarry x = make.make();
        Expect.same(due, call.on(x));
        showsNoChange(x);
    }

    private void showsNoChange(QuantityQuarry x) {
        if (told == null) {
            told = Told.of(make.make());
        }
        Expect.same(told, Told.of(x));
    }

    /** Each of the worlds refuses the call. */
    static void allRefuse(Class<? extends RuntimeException> due, Use call, World... worlds) {
        for (World world : worlds) {
            world.refuses(due, call);
        }
    }

    /**
     * With each number of parties, the calls about one that there is not are refused as such, whether the protocol
     * is whole or not, and whether a run has begun or not.
     */
    static void refuseWrongParties(OfParty... calls) {
        for (int parties = 0; parties <= 4; parties++) {
            int count = parties;
            World bare = new World(() -> Samples.parties(count));
            World open = new World(() -> Samples.ended(count));
            for (int wrong : Ints.outside(0, count - 1)) {
                for (OfParty call : calls) {
                    allRefuse(Expect.INDEX, x -> call.on(x, wrong), bare, open, open.begun());
                }
            }
        }
    }
}
