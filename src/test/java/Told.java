/**
 * All that calls show of a language and its run, in some 330 calls: first by asking, then by changing it.
 * Two languages that tell the same have the same parties, nodes, branches, programs, monitors and run.
 */
final class Told {
    private static final String[] OF_PARTY = {"refusal", "states", "fault", "faultAt", "places", "idleCases",
        "isAdmitted", "condition", "at", "stateOf", "blamedAt"};
    private static final String[] OF_ALL = {"cellsInUse", "isStuck", "search", "reached", "steps", "meanPlaces",
        "admittedShare", "isConsistent"};

    private final Caller language;
    private final StringBuilder text = new StringBuilder();

    private Told(Object language) {
        this.language = new Caller(language);
    }

    /** What is told of the program, or of PlainModel; it is not to be used any more behind this. */
    static String of(Object language) {
        Told told = new Told(language);
        told.askParties();
        told.askStates();
        told.askRun();
        told.goOn();
        told.change();
        return told.text.toString();
    }

    private Object say(String name, Object... arguments) {
        Object answer = language.call(name, arguments);
        text.append(name);
        for (Object argument : arguments) {
            text.append(' ').append(argument);
        }
        text.append(": ").append(answer).append('\n');
        return answer;
    }

    private void askParties() {
        for (int party = 0; party < 4; party++) {
            for (String name : OF_PARTY) {
                say(name, party);
            }
        }
        for (String name : OF_ALL) {
            say(name);
        }
    }

    private void askStates() {
        for (int party = 0; party < 4; party++) {
            for (int state = 0; state < 3; state++) {
                if (say("kindOf", party, state) instanceof Character) {
                    say("partnerOf", party, state);
                    for (int label = 0; label < 6; label++) {
                        say("follower", party, state, label);
                    }
                }
            }
        }
    }

    private void askRun() {
        for (int party = 0; party < 4; party++) {
            say("number", party, 0);
            say("number", party, 1);
            for (int name = 0; name < 4; name++) {
                say("cellIn", party, name);
            }
            for (int to = 0; to < 4; to++) {
                Object length = say("queued", party, to);
                for (int index = 0; length instanceof Integer && index < (Integer) length; index++) {
                    say("messageAt", party, to, index);
                }
            }
        }
    }

    private void goOn() {
        for (int party = 0; party < 4; party++) {
            say("step", party);
            say("step", party);
            say("blamedAt", party);
        }
        say("cellsInUse");
        say("close");
        say("steps");
    }

    private void change() {
        say("setStart", 0);
        for (int node = 0; node < 5; node++) {
            for (int label = 0; label < 6; label += node < 2 ? 1 : 2) {
                say("addBranch", node, label, false, 0);
            }
        }
        for (int party = 0; party < 4; party++) {
            say("setMonitor", party, false);
            say("setNumber", party, 0, 0);
            say("setNumber", party, 1, 0);
            for (int instruction = 0; instruction < 3; instruction++) {
                say("addCase", party, instruction, 0, -1, 0);
                say("addCase", party, instruction, 5, -1, 0);
            }
            say("add", party, 'e', 0, 0, 0);
            say("fault", party);
        }
        say("addMessage", 0, 1);
        say("addEnd");
        say("addParty");
        say("begin", 1);
    }
}
