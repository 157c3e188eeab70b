/** Makes the schedules that the tests begin with; throws if one can't be made. */
final class Make {
    /** The document's limits, written out here so that no test takes them from the class. */
    static final int MOST_ROUNDS = 16;
    static final int MOST_CALLS = 28;
    static final int MOST_CHARACTERS = 59;

    private Make() {
    }

    static GossipSchedule schedule(int persons, int mode, int graph) {
        GossipSchedule s = new GossipSchedule();
        must("newSchedule", s.newSchedule(persons, mode), persons);
        must("setGraph", s.setGraph(graph), GossipSchedule.COMPLETE);
        return s;
    }

    /** Mode MIXED, graph COMPLETE. */
    static GossipSchedule mixed(int persons) {
        return schedule(persons, GossipSchedule.MIXED, GossipSchedule.COMPLETE);
    }

    /** Mode MIXED, graph COMPLETE, with the calls of the text. */
    static GossipSchedule loaded(int persons, String text) {
        GossipSchedule s = mixed(persons);
        load(s, text);
        return s;
    }

    static void load(GossipSchedule s, String text) {
        write(s, text);
        must("load() of " + text, s.load(), (text.length() + 1) / 4);
    }

    static void write(GossipSchedule s, String text) {
        for (int i = 0; i < text.length(); i++) {
            s.append(text.charAt(i));
        }
    }

    static void addRounds(GossipSchedule s, int rounds) {
        for (int i = 0; i < rounds; i++) {
            must("addRound()", s.addRound(), s.roundCount());
        }
    }

    /** So many rounds more, each with one two-way call of persons 0 and 1. */
    static void addSameCalls(GossipSchedule s, int calls) {
        for (int i = 0; i < calls; i++) {
            addRounds(s, 1);
            must("addCall(0, 1, false)", s.addCall(0, 1, false), s.callCount() - 1);
        }
    }

    /** Eight persons, 28 calls of a kind that the mode takes: 0 to 1, 2 to 3, 4 to 5, 6 to 7, seven times. */
    static GossipSchedule fullOfCalls(int mode) {
        GossipSchedule s = schedule(8, mode, GossipSchedule.COMPLETE);
        for (int call = 0; call < MOST_CALLS; call++) {
            if (call % 4 == 0) {
                addRounds(s, 1);
            }
            int caller = 2 * (call % 4);
            must("addCall", s.addCall(caller, caller + 1, mode == GossipSchedule.ONE_WAY_ONLY), call);
        }
        return s;
    }

    static boolean fillsCube(int persons) {
        return persons == 2 || persons == 4 || persons == 8;
    }

    private static void must(String call, int got, int want) {
        if (got != want) {
            throw new IllegalStateException(call + " answered " + got + " instead of " + want);
        }
    }
}
