/** A test for each sentence of promises 15 to 22 that names a boundary case. */
public final class SimulationBoundsTest {
    private static final Check CHECK = new Check();
    private static final int LEAST = Integer.MIN_VALUE;
    private static final int MOST = Integer.MAX_VALUE;
    private static final int MIXED = GossipSchedule.MIXED;
    private static final int ONE_WAY = GossipSchedule.ONE_WAY_ONLY;
    private static final int COMPLETE = GossipSchedule.COMPLETE;
    private static final int NEVER = GossipSchedule.NEVER;
    private static final int OUT_OF_RANGE = GossipSchedule.OUT_OF_RANGE;
    private static final int NO_SUCH_PERSON = GossipSchedule.NO_SUCH_PERSON;
    private static final int NO_SUCH_CALL = GossipSchedule.NO_SUCH_CALL;

    public static void main(String[] args) {
        CHECK.sentence("15: Returns the number of persons.", SimulationBoundsTest::personCounts);
        CHECK.sentence("16: Returns the number of rounds.", SimulationBoundsTest::roundCounts);
        CHECK.sentence("17: Returns the number of calls.", SimulationBoundsTest::callCounts);
        promise18();
        promise19();
        promise20();
        promise21();
        promise22();
        CHECK.end();
    }

    private static void promise18() {
        CHECK.sentence("18: Returns 1000 * r + 100 * k + 10 * a + b", SimulationBoundsTest::descriptions);
        CHECK.sentence("18: NO_SUCH_CALL if the call does not exist.", SimulationBoundsTest::noSuchCall);
    }

    private static void promise19() {
        CHECK.sentence("19: rounds: how many rounds have taken place, 0 to the number of rounds",
                SimulationBoundsTest::knowledgeByRounds);
        CHECK.sentence("19: Returns a bit mask of items (bit i for item i)", SimulationBoundsTest::masksOfItems);
        CHECK.sentence("19: NO_SUCH_PERSON if the person does not exist", SimulationBoundsTest::noSuchPerson);
        CHECK.sentence("19: NO_SUCH_PERSON [..] (checked first)", SimulationBoundsTest::personCheckedFirst);
        CHECK.sentence("19: OUT_OF_RANGE if rounds is out of range.", SimulationBoundsTest::knowledgeOutOfRange);
    }

    private static void promise20() {
        CHECK.sentence("20: Returns the least number of rounds after which every person knows every item",
                SimulationBoundsTest::leastRounds);
        CHECK.sentence("20: NEVER if the schedule is not complete.", SimulationBoundsTest::neverComplete);
    }

    private static void promise21() {
        CHECK.sentence("21: A call is redundant if no person learns an item in it that this person did not know before.",
                SimulationBoundsTest::whoLearns);
        CHECK.sentence("21: Returns the number of redundant calls.", SimulationBoundsTest::howManyRedundant);
    }

    private static void promise22() {
        CHECK.sentence("22: rounds: how many rounds have taken place, 0 to the number of rounds",
                SimulationBoundsTest::averageByRounds);
        CHECK.sentence("22: Returns float.floatToIntBits of the total number of known items over all persons, as a float, divided by the number of persons",
                SimulationBoundsTest::averageBits);
        CHECK.sentence("22: OUT_OF_RANGE if rounds is out of range.", SimulationBoundsTest::averageOutOfRange);
    }

    private static void due(String call, long got, long want) {
        CHECK.due(call, got, want);
    }

    // ---- promises 15 to 17

    private static void personCounts() {
        GossipSchedule s = new GossipSchedule();
        due("a new object", s.personCount(), 2);
        for (int persons = 8; persons >= 2; persons--) {
            s.newSchedule(persons, ONE_WAY);
            due("newSchedule(" + persons + ", 2)", s.personCount(), persons);
            s.newSchedule(persons + 7, MIXED);
            due("after a refused call", s.personCount(), persons);
        }
    }

    private static void roundCounts() {
        GossipSchedule s = new GossipSchedule();
        due("a new object", s.roundCount(), 0);
        s.removeLastRound();
        due("after a refused call", s.roundCount(), 0);
        Make.addRounds(s, Make.MOST_ROUNDS);
        due("the most rounds", s.roundCount(), 16);
        s.addRound();
        due("after another refused call", s.roundCount(), 16);
        s.newSchedule(2, MIXED);
        due("a new schedule", s.roundCount(), 0);
    }

    private static void callCounts() {
        GossipSchedule s = new GossipSchedule();
        due("a new object", s.callCount(), 0);
        Make.addRounds(s, Make.MOST_ROUNDS);
        due("empty rounds", s.callCount(), 0);
        GossipSchedule full = Make.fullOfCalls(MIXED);
        due("the most calls", full.callCount(), 28);
        Make.addRounds(full, 1);
        full.addCall(0, 1, false);
        due("after a refused call", full.callCount(), 28);
    }

    // ---- promise 18

    private static void descriptions() {
        GossipSchedule s = Make.mixed(8);
        Make.addRounds(s, 1);
        s.addCall(0, 1, false);
        due("the least", s.describeCall(0), 1);
        s.addCall(7, 6, false);
        due("the highest persons", s.describeCall(1), 76);
        s.addCall(2, 3, true);
        due("one-way", s.describeCall(2), 123);
        Make.addRounds(s, 15);
        s.addCall(7, 6, true);
        due("the highest of all", s.describeCall(3), 15176);
        s.addCall(1, 0, false);
        due("the last round, two-way", s.describeCall(4), 15010);
    }

    private static void noSuchCall() {
        GossipSchedule s = Make.mixed(8);
        due("no calls", s.describeCall(0), NO_SUCH_CALL);
        due("no calls, -1", s.describeCall(-1), NO_SUCH_CALL);
        GossipSchedule one = Make.loaded(8, "0-1");
        due("one call", one.describeCall(0), 1);
        due("one call, 1", one.describeCall(1), NO_SUCH_CALL);
        GossipSchedule full = Make.fullOfCalls(MIXED);
        due("the last of 28", full.describeCall(27), 6067);
        for (int call : new int[] {-1, 28, 29, 32, 256, LEAST, MOST}) {
            CHECK.refused("describeCall(" + call + ")", full, () -> full.describeCall(call), NO_SUCH_CALL);
        }
        full.removeLastRound();
        due("a removed call", full.describeCall(24), NO_SUCH_CALL);
        due("the last one left", full.describeCall(23), 5067);
    }

    // ---- promise 19

    private static void knowledgeByRounds() {
        GossipSchedule s = Make.loaded(4, "0-1,2-3;0>2;2>1,3>0");
        int[][] want = {{1, 2, 4, 8}, {3, 3, 12, 12}, {3, 3, 15, 12}, {15, 15, 15, 12}};
        for (int rounds = 0; rounds <= 3; rounds++) {
            for (int person = 0; person < 4; person++) {
                due("knowledge(" + person + ", " + rounds + ")", s.knowledge(person, rounds),
                        want[rounds][person]);
            }
        }
        GossipSchedule late = new GossipSchedule();
        Make.addRounds(late, Make.MOST_ROUNDS);
        late.addCall(1, 0, true);
        due("0 after 15 rounds", late.knowledge(0, 15), 1);
        due("0 after 16 rounds", late.knowledge(0, 16), 3);
        due("1 after 16 rounds", late.knowledge(1, 16), 2);
    }

    private static void masksOfItems() {
        GossipSchedule s = Make.mixed(8);
        s.buildDoubling();
        due("item 0 alone", s.knowledge(0, 0), 1);
        due("item 7 alone", s.knowledge(7, 0), 128);
        due("items 6 and 7", s.knowledge(6, 1), 192);
        due("items 4 to 7", s.knowledge(5, 2), 240);
        due("every item", s.knowledge(7, 3), 255);
        due("every item, person 0", s.knowledge(0, 3), 255);
        GossipSchedule two = Make.loaded(2, "0-1");
        due("every item of two", two.knowledge(1, 1), 3);
    }

    private static void noSuchPerson() {
        for (int persons = 2; persons <= 8; persons++) {
            GossipSchedule s = Make.mixed(persons);
            Make.addSameCalls(s, 1);
            for (int person : new int[] {-1, persons, persons + 1, 8, 64, LEAST, MOST}) {
                due("knowledge(" + person + ", 0) of " + persons, s.knowledge(person, 0), NO_SUCH_PERSON);
                due("knowledge(" + person + ", 1) of " + persons, s.knowledge(person, 1), NO_SUCH_PERSON);
            }
            due("the last of " + persons, s.knowledge(persons - 1, 0), 1 << persons - 1);
        }
    }

    private static void personCheckedFirst() {
        GossipSchedule s = Make.loaded(3, "0-1;1-2");
        for (int rounds : new int[] {-1, 3, LEAST, MOST}) {
            CHECK.refused("knowledge(3, " + rounds + ")", s, () -> s.knowledge(3, rounds), NO_SUCH_PERSON);
            CHECK.refused("knowledge(-1, " + rounds + ")", s, () -> s.knowledge(-1, rounds), NO_SUCH_PERSON);
        }
    }

    private static void knowledgeOutOfRange() {
        GossipSchedule none = new GossipSchedule();
        due("no rounds, 0", none.knowledge(0, 0), 1);
        due("no rounds, 1", none.knowledge(0, 1), OUT_OF_RANGE);
        due("no rounds, -1", none.knowledge(1, -1), OUT_OF_RANGE);
        GossipSchedule s = new GossipSchedule();
        Make.addRounds(s, Make.MOST_ROUNDS);
        due("all rounds", s.knowledge(1, 16), 2);
        for (int rounds : new int[] {-1, 17, 28, 256, LEAST, MOST}) {
            CHECK.refused("knowledge(1, " + rounds + ")", s, () -> s.knowledge(1, rounds), OUT_OF_RANGE);
        }
        s.removeLastRound();
        due("a removed round", s.knowledge(1, 16), OUT_OF_RANGE);
        due("the last one left", s.knowledge(1, 15), 2);
    }

    // ---- promise 20

    private static void leastRounds() {
        due("in the first round", Make.loaded(2, "0-1").completeAfter(), 1);
        due("later rounds do not count", Make.loaded(2, "0-1;0-1;1>0").completeAfter(), 1);
        GossipSchedule late = new GossipSchedule();
        Make.addRounds(late, Make.MOST_ROUNDS);
        late.addCall(0, 1, false);
        due("in the last of 16 rounds", late.completeAfter(), 16);
        GossipSchedule early = Make.loaded(2, "0-1");
        Make.addRounds(early, 15);
        due("before 15 empty rounds", early.completeAfter(), 1);
        due("by the first call of a round of two", Make.loaded(4, "0-1,2-3;0-2;1-3,0-2").completeAfter(), 3);
        due("by the last call of a round of two", Make.loaded(4, "0-1,2-3;0-2;0-2,1-3").completeAfter(), 3);
    }

    private static void neverComplete() {
        GossipSchedule s = new GossipSchedule();
        due("no rounds", s.completeAfter(), NEVER);
        Make.addRounds(s, Make.MOST_ROUNDS);
        due("empty rounds", s.completeAfter(), NEVER);
        due("one-way alone", Make.loaded(2, "0>1;0>1").completeAfter(), NEVER);
        due("one item of one person is lacking", Make.loaded(3, "0-1;1-2").completeAfter(), NEVER);
        GossipSchedule removed = Make.loaded(2, "0-1");
        removed.removeLastRound();
        Make.addRounds(removed, 1);
        due("the call was removed", removed.completeAfter(), NEVER);
        due("28 calls", Make.fullOfCalls(MIXED).completeAfter(), NEVER);
    }

    // ---- promise 21

    private static void whoLearns() {
        due("only the caller learns", Make.loaded(3, "0>1;0-1").redundantCalls(), 0);
        due("only the callee learns", Make.loaded(3, "0>1;1-0").redundantCalls(), 0);
        due("nobody learns", Make.loaded(3, "0-1;0-1").redundantCalls(), 1);
        due("nobody learns, one-way", Make.loaded(3, "0-1;0>1").redundantCalls(), 1);
        due("a caller would learn, but the call is one-way", Make.loaded(3, "0>1;0>1").redundantCalls(), 1);
        due("the same call can teach again", Make.loaded(3, "0-1;1-2;0-1").redundantCalls(), 0);
        due("a call before it was of use does not count", Make.loaded(3, "0-1;0-1;1-2;0-1").redundantCalls(), 1);
    }

    private static void howManyRedundant() {
        GossipSchedule s = new GossipSchedule();
        due("no rounds", s.redundantCalls(), 0);
        Make.addRounds(s, 1);
        due("an empty round", s.redundantCalls(), 0);
        GossipSchedule all = Make.loaded(8, "0-1,2-3;0-1,2-3;0-1");
        due("in a schedule that is not complete", all.redundantCalls(), 3);
        due("28 calls, all but four", Make.fullOfCalls(MIXED).redundantCalls(), 24);
        due("28 one-way calls", Make.fullOfCalls(ONE_WAY).redundantCalls(), 24);
        GossipSchedule same = new GossipSchedule();
        Make.addSameCalls(same, 16);
        due("16 calls, all but one", same.redundantCalls(), 15);
    }

    // ---- promise 22

    private static void averageByRounds() {
        GossipSchedule s = Make.loaded(4, "0>1;0-1,2-3");
        due("at the start: 1", s.averageKnowledge(0), 0x3f800000);
        due("after one round: 5 / 4", s.averageKnowledge(1), 0x3fa00000);
        due("after all rounds: 2", s.averageKnowledge(2), 0x40000000);
        GossipSchedule late = new GossipSchedule();
        Make.addRounds(late, Make.MOST_ROUNDS);
        late.addCall(0, 1, false);
        due("after 15 rounds", late.averageKnowledge(15), 0x3f800000);
        due("after 16 rounds", late.averageKnowledge(16), 0x40000000);
    }

    private static void averageBits() {
        GossipSchedule eight = Make.mixed(8);
        eight.buildDoubling();
        int[] doubled = {0x3f800000, 0x40000000, 0x40800000, 0x41000000};
        for (int rounds = 0; rounds <= 3; rounds++) {
            due("1, 2, 4, 8", eight.averageKnowledge(rounds), doubled[rounds]);
        }
        due("4 / 3 is rounded up", Make.loaded(3, "0>1").averageKnowledge(1), 0x3faaaaab);
        due("5 / 3 is rounded down", Make.loaded(3, "0-1").averageKnowledge(1), 0x3fd55555);
        for (int persons = 2; persons <= 8; persons++) {
            GossipSchedule s = Make.schedule(persons, ONE_WAY, COMPLETE);
            s.buildGatherSpread();
            int total = persons;
            due("the start of " + persons, s.averageKnowledge(0), Float.floatToIntBits(1.0f));
            for (int rounds = 1; rounds <= s.roundCount(); rounds++) {
                total += rounds < persons ? 1 : persons - 1;
                due("total " + total + " of " + persons, s.averageKnowledge(rounds),
                        Float.floatToIntBits((float) total / (float) persons));
            }
            due("everybody knows everything", total, persons * persons);
        }
    }

    private static void averageOutOfRange() {
        GossipSchedule none = new GossipSchedule();
        due("no rounds, 0", none.averageKnowledge(0), 0x3f800000);
        due("no rounds, 1", none.averageKnowledge(1), OUT_OF_RANGE);
        due("no rounds, -1", none.averageKnowledge(-1), OUT_OF_RANGE);
        GossipSchedule s = new GossipSchedule();
        Make.addRounds(s, Make.MOST_ROUNDS);
        due("all rounds", s.averageKnowledge(16), 0x3f800000);
        for (int rounds : new int[] {-1, 17, 28, 256, LEAST, MOST}) {
            CHECK.refused("averageKnowledge(" + rounds + ")", s, () -> s.averageKnowledge(rounds), OUT_OF_RANGE);
        }
        s.removeLastRound();
        due("a removed round", s.averageKnowledge(16), OUT_OF_RANGE);
    }
}
