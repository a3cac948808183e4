/** Promises 1 to 6: a new object, and the protocol that is added to it. */
public final class ProtocolTest {
    public static void main(String[] args) {
        newObject();
        addParty();
        addMessage();
        addEnd();
        addBranch();
        setStart();
        nodesBecomeFull();
        nothingIsAddedInARun();
        whatThrowsChangesNothing();
        Expect.finish();
    }

    private static void newObject() {
        QuantityQuarry x = new QuantityQuarry();
        Expect.thrown(Expect.INDEX, () -> x.refusal(0));
        Expect.thrown(Expect.INDEX, () -> x.setStart(0));
        Expect.thrown(Expect.STATE, x::close);
        Expect.thrown(Expect.STATE, () -> x.begin(1));
        Expect.thrown(Expect.STATE, x::meanPlaces);
        Expect.same(0L, x.steps());
        Expect.same(true, x.isConsistent());
        QuantityQuarry other = new QuantityQuarry();
        x.addParty();
        Expect.same(0, other.addParty());
        Expect.same(1, x.addParty());
    }

    private static void addParty() {
        QuantityQuarry x = new QuantityQuarry();
        for (int i = 0; i < 4; i++) {
            Expect.same(i, x.addParty());
        }
        Expect.thrown(Expect.STATE, x::addParty);
        x.addEnd();
        x.setStart(0);
        Expect.same('i', x.fault(3));
        Expect.same(0, x.faultAt(3));
        Expect.same(0, x.add(3, 'e', 0, 0, 0));
        Expect.same(4, x.begin(1));
        Expect.thrown(Expect.ELEMENT, () -> x.stateOf(3));
        Expect.same(0, x.number(3, 0));
        Expect.same(0, x.number(3, 1));
    }

    private static void addMessage() {
        QuantityQuarry x = Samples.parties(2);
        Expect.thrown(Expect.INDEX, () -> x.addMessage(-1, 1));
        Expect.thrown(Expect.INDEX, () -> x.addMessage(2, 1));
        Expect.thrown(Expect.INDEX, () -> x.addMessage(1, -1));
        Expect.thrown(Expect.INDEX, () -> x.addMessage(1, 2));
        Expect.thrown(Expect.INDEX, () -> x.addMessage(2, 2));
        Expect.thrown(Expect.INDEX, () -> x.addMessage(0, Integer.MAX_VALUE));
        Expect.thrown(Expect.INDEX, () -> x.addMessage(Integer.MIN_VALUE, 0));
        Expect.thrown(Expect.ARGUMENT, () -> x.addMessage(1, 1));
        Expect.same(0, x.addMessage(0, 1));
        Expect.same(1, x.addMessage(1, 0));
        Expect.same(2, x.addMessage(0, 1));
        x.setStart(0);
        Expect.thrown(Expect.STATE, () -> x.refusal(0));
        Expect.same(1, x.addBranch(0, 0, false, 1));
        Expect.same(1, x.addBranch(1, 0, false, 0));
        Expect.thrown(Expect.STATE, () -> x.refusal(0));
        Expect.same(1, x.addBranch(2, 0, false, 0));
        Expect.same('-', x.refusal(0));
        Expect.same('s', x.kindOf(0, 0));
        Expect.same(1, x.partnerOf(0, 0));
        Expect.same('r', x.kindOf(1, 0));
        Expect.same(0, x.partnerOf(1, 0));
    }

    private static void addEnd() {
        QuantityQuarry x = Samples.parties(1);
        Expect.same(0, x.addEnd());
        Expect.same(1, x.addEnd());
        Expect.thrown(Expect.STATE, () -> x.kindOf(0, 0));
        x.setStart(1);
        Expect.same('e', x.kindOf(0, 0));
        Expect.same(1, x.states(0));
    }

    private static void addBranch() {
        QuantityQuarry x = Samples.parties(2);
        Samples.nodes(x, "01", "e", "10");
        Expect.thrown(Expect.INDEX, () -> x.addBranch(-1, 0, false, 1));
        Expect.thrown(Expect.INDEX, () -> x.addBranch(3, 0, false, 1));
        Expect.thrown(Expect.INDEX, () -> x.addBranch(0, 0, false, -1));
        Expect.thrown(Expect.INDEX, () -> x.addBranch(0, 0, false, 3));
        Expect.thrown(Expect.INDEX, () -> x.addBranch(1, 9, false, 3));
        Expect.thrown(Expect.INDEX, () -> x.addBranch(20, 0, false, 0));
        Expect.thrown(Expect.ARGUMENT, () -> x.addBranch(1, 0, false, 0));
        Expect.thrown(Expect.ARGUMENT, () -> x.addBranch(0, -1, false, 1));
        Expect.thrown(Expect.ARGUMENT, () -> x.addBranch(0, 6, false, 1));
        Expect.thrown(Expect.ARGUMENT, () -> x.addBranch(0, 32, false, 1));
        Expect.same(1, x.addBranch(0, 5, true, 1));
        Expect.thrown(Expect.STATE, () -> x.addBranch(0, 5, false, 0));
        Expect.same(2, x.addBranch(0, 0, false, 0));
        Expect.same(3, x.addBranch(0, 3, false, 2));
        Expect.thrown(Expect.STATE, () -> x.addBranch(0, 4, false, 1));
        Expect.thrown(Expect.STATE, () -> x.addBranch(0, 5, false, 1));
        Expect.thrown(Expect.ARGUMENT, () -> x.addBranch(0, 6, false, 1));
        Expect.same(1, x.addBranch(2, 5, false, 2));
        x.setStart(0);
        Expect.same(0, x.follower(0, 0, 0));
        Expect.same(1, x.follower(0, 0, 3));
        Expect.same(102, x.follower(0, 0, 5));
        Expect.thrown(Expect.ELEMENT, () -> x.follower(0, 0, 4));
    }

    private static void setStart() {
        QuantityQuarry x = Samples.parties(2);
        Samples.nodes(x, "e", "e");
        Expect.thrown(Expect.INDEX, () -> x.setStart(-1));
        Expect.thrown(Expect.INDEX, () -> x.setStart(2));
        Expect.same(-1, x.setStart(1));
        Expect.same(1, x.setStart(0));
        Expect.same(0, x.setStart(0));
        Expect.same(0, x.setStart(1));
        Samples.nodes(x, "01");
        Samples.branches(x, "2 0 1");
        Expect.same('e', x.kindOf(0, 0));
        Expect.same(1, x.setStart(2));
        Expect.same('s', x.kindOf(0, 0));
    }

    private static void nodesBecomeFull() {
        QuantityQuarry x = Samples.parties(2);
        for (int i = 0; i < 20; i++) {
            Expect.same(i, i % 2 == 0 ? x.addEnd() : x.addMessage(0, 1));
        }
        Expect.thrown(Expect.STATE, x::addEnd);
        Expect.thrown(Expect.STATE, () -> x.addMessage(0, 1));
        Expect.thrown(Expect.ARGUMENT, () -> x.addMessage(0, 0));
        Expect.thrown(Expect.INDEX, () -> x.addMessage(0, 2));
        Expect.same(-1, x.setStart(19));
        Expect.same(1, x.addBranch(19, 0, true, 18));
        Expect.thrown(Expect.INDEX, () -> x.addBranch(19, 1, true, 20));
    }

    private static void nothingIsAddedInARun() {
        QuantityQuarry x = Samples.pingPong();
        x.begin(1);
        Expect.thrown(Expect.STATE, x::addParty);
        Expect.thrown(Expect.STATE, () -> x.addMessage(0, 1));
        Expect.thrown(Expect.ARGUMENT, () -> x.addMessage(0, 0));
        Expect.thrown(Expect.INDEX, () -> x.addMessage(0, 2));
        Expect.thrown(Expect.STATE, x::addEnd);
        Expect.thrown(Expect.STATE, () -> x.addBranch(1, 0, false, 2));
        Expect.thrown(Expect.ARGUMENT, () -> x.addBranch(2, 0, false, 2));
        Expect.thrown(Expect.INDEX, () -> x.addBranch(3, 0, false, 2));
        Expect.thrown(Expect.STATE, () -> x.setStart(2));
        Expect.thrown(Expect.INDEX, () -> x.setStart(3));
        x.close();
        Expect.same(2, x.addParty());
        Expect.same(3, x.addMessage(0, 2));
        Expect.same(4, x.addEnd());
        Expect.same(2, x.addBranch(1, 0, false, 2));
        Expect.same(0, x.setStart(2));
    }

    private static void whatThrowsChangesNothing() {
        QuantityQuarry x = Samples.parties(2);
        Samples.nodes(x, "01", "e");
        Expect.thrown(Expect.INDEX, () -> x.addMessage(0, 2));
        Expect.thrown(Expect.ARGUMENT, () -> x.addMessage(0, 0));
        Expect.same(2, x.addEnd());
        Expect.thrown(Expect.INDEX, () -> x.addBranch(0, 0, true, 3));
        Expect.thrown(Expect.ARGUMENT, () -> x.addBranch(0, 6, true, 1));
        Expect.same(1, x.addBranch(0, 0, false, 1));
        Expect.thrown(Expect.STATE, () -> x.addBranch(0, 0, true, 2));
        Expect.thrown(Expect.INDEX, () -> x.setStart(3));
        Expect.same(-1, x.setStart(0));
        Expect.thrown(Expect.INDEX, () -> x.setStart(3));
        Expect.same(0, x.setStart(0));
        Expect.same(1, x.follower(0, 0, 0));
    }
}
