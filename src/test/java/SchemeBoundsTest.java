/** A test for each sentence of promises 12 to 14 that names a boundary case. */
public final class SchemeBoundsTest {
    private static final Check CHECK = new Check();
    private static final int MIXED = GossipSchedule.MIXED;
    private static final int ONE_WAY = GossipSchedule.ONE_WAY_ONLY;
    private static final int COMPLETE = GossipSchedule.COMPLETE;
    private static final int CUBE = GossipSchedule.CUBE;
    private static final int WRONG_KIND = GossipSchedule.WRONG_KIND;
    private static final int NOT_NEIGHBORS = GossipSchedule.NOT_NEIGHBORS;
    private static final int WRONG_PERSON_COUNT = GossipSchedule.WRONG_PERSON_COUNT;

    public static void main(String[] args) {
        CHECK.sentence("12 to 14: known schemes: each replaces all rounds of the schedule",
                SchemeBoundsTest::roundsAreReplaced);
        promise12();
        promise13();
        promise14();
        CHECK.end();
    }

    private static void promise12() {
        CHECK.sentence("12: in round k, counted from 0, each person p for which bit k of p is 0 calls person p + 2^k, two-way, in ascending order of p.",
                SchemeBoundsTest::doublingCalls);
        CHECK.sentence("12: The number of rounds is the binary logarithm of the number of persons.",
                SchemeBoundsTest::doublingRounds);
        CHECK.sentence("12: WRONG_PERSON_COUNT if the number of persons is not 2, 4 or 8",
                SchemeBoundsTest::doublingWrongCount);
        CHECK.sentence("12: WRONG_PERSON_COUNT [..] (checked first)", SchemeBoundsTest::doublingCountFirst);
        CHECK.sentence("12: WRONG_KIND if the mode is ONE_WAY_ONLY", SchemeBoundsTest::doublingWrongKind);
        CHECK.sentence("12: WRONG_KIND [..] (checked second)", SchemeBoundsTest::doublingKindSecond);
        CHECK.sentence("12: NOT_NEIGHBORS if the graph is neither COMPLETE nor CUBE.",
                SchemeBoundsTest::doublingNotNeighbors);
    }

    private static void promise13() {
        CHECK.sentence("13: for each person i from 4 on in ascending order, a round in which i calls 0; [..]",
                SchemeBoundsTest::fourCoreCalls);
        CHECK.sentence("13: Builds the scheme with 2n - 4 two-way calls for n persons.",
                SchemeBoundsTest::fourCoreSizes);
        CHECK.sentence("13: WRONG_PERSON_COUNT if there are fewer than 4 persons",
                SchemeBoundsTest::fourCoreWrongCount);
        CHECK.sentence("13: WRONG_PERSON_COUNT [..] (checked first)", SchemeBoundsTest::fourCoreCountFirst);
        CHECK.sentence("13: WRONG_KIND if the mode is ONE_WAY_ONLY", SchemeBoundsTest::fourCoreWrongKind);
        CHECK.sentence("13: WRONG_KIND [..] (checked second)", SchemeBoundsTest::fourCoreKindSecond);
        CHECK.sentence("13: NOT_NEIGHBORS if the graph is not COMPLETE.", SchemeBoundsTest::fourCoreNotNeighbors);
    }

    private static void promise14() {
        CHECK.sentence("14: for each person i from 1 on in ascending order, a round in which i calls 0; [..]",
                SchemeBoundsTest::gatherSpreadCalls);
        CHECK.sentence("14: If the mode is ONE_WAY_ONLY, all calls are one-way, and the second part has persons 1 to n - 1.",
                SchemeBoundsTest::oneWayGatherSpread);
        CHECK.sentence("14: Otherwise all calls are two-way, and the second part has persons 1 to n - 2",
                SchemeBoundsTest::twoWayGatherSpread);
        CHECK.sentence("14: NOT_NEIGHBORS if the graph does not make person 0 a neighbor of every other person.",
                SchemeBoundsTest::gatherSpreadNotNeighbors);
    }

    private static void due(String call, long got, long want) {
        CHECK.due(call, got, want);
    }

    private static void dueCalls(String what, GossipSchedule s, int... described) {
        due("calls of " + what, s.callCount(), described.length);
        for (int call = 0; call < described.length; call++) {
            due("call " + call + " of " + what, s.describeCall(call), described[call]);
        }
        due("no call more of " + what, s.describeCall(described.length), GossipSchedule.NO_SUCH_CALL);
    }

    private static void roundsAreReplaced() {
        GossipSchedule s = Make.fullOfCalls(MIXED);
        Make.addRounds(s, 9);
        Make.write(s, "0-1");
        due("doubling over a full schedule", s.buildDoubling(), 12);
        due("its rounds", s.roundCount(), 3);
        due("its last call", s.describeCall(11), 2037);
        Make.addRounds(s, 13);
        due("four core over 16 rounds", s.buildFourCore(), 12);
        due("its rounds", s.roundCount(), 10);
        due("its last call", s.describeCall(11), 9007);
        Make.addRounds(s, 6);
        due("gather and spread over 16 rounds", s.buildGatherSpread(), 13);
        due("its rounds", s.roundCount(), 13);
        due("its last call", s.describeCall(12), 12006);
        due("the same scheme again", s.buildGatherSpread(), 13);
        due("the same rounds again", s.roundCount(), 13);
        due("persons stay", s.personCount(), 8);
        due("the graph stays", s.setGraph(COMPLETE), COMPLETE);
        due("the buffer stays", s.clearInput(), 3);
        Make.addRounds(s, 1);
        due("the mode stays: two-way", s.addCall(0, 5, false), 13);
        due("the mode stays: one-way", s.addCall(1, 4, true), 14);
        GossipSchedule cube = Make.schedule(8, MIXED, CUBE);
        due("doubling in a cube", cube.buildDoubling(), 12);
        due("the cube stays", cube.setGraph(COMPLETE), CUBE);
        GossipSchedule star = Make.schedule(5, ONE_WAY, GossipSchedule.STAR);
        due("gather and spread in a star", star.buildGatherSpread(), 8);
        due("the star stays", star.setGraph(COMPLETE), GossipSchedule.STAR);
    }

    // ---- promise 12

    private static void doublingCalls() {
        GossipSchedule s = new GossipSchedule();
        due("buildDoubling() of 2", s.buildDoubling(), 1);
        dueCalls("2 persons", s, 1);
        s.newSchedule(4, GossipSchedule.TWO_WAY_ONLY);
        due("buildDoubling() of 4", s.buildDoubling(), 4);
        dueCalls("4 persons", s, 1, 23, 1002, 1013);
        s.newSchedule(8, MIXED);
        due("buildDoubling() of 8", s.buildDoubling(), 12);
        dueCalls("8 persons", s, 1, 23, 45, 67, 1002, 1013, 1046, 1057, 2004, 2015, 2026, 2037);
    }

    private static void doublingRounds() {
        int[] rounds = {1, 2, 3};
        for (int k = 0; k < 3; k++) {
            GossipSchedule s = Make.mixed(2 << k);
            s.buildDoubling();
            due("rounds of " + (2 << k), s.roundCount(), rounds[k]);
            due("complete after all of them", s.completeAfter(), rounds[k]);
            due("no call in vain", s.redundantCalls(), 0);
        }
    }

    private static void doublingWrongCount() {
        for (int persons = 2; persons <= 8; persons++) {
            GossipSchedule s = Make.mixed(persons);
            Make.addSameCalls(s, 2);
            if (Make.fillsCube(persons)) {
                due("doubling of " + persons, s.buildDoubling(), persons == 2 ? 1 : persons == 4 ? 4 : 12);
            } else {
                CHECK.refused("doubling of " + persons, s, () -> s.buildDoubling(), WRONG_PERSON_COUNT);
            }
        }
    }

    private static void doublingCountFirst() {
        for (int persons : new int[] {3, 5, 6, 7}) {
            GossipSchedule kind = Make.schedule(persons, ONE_WAY, COMPLETE);
            CHECK.refused("wrong kind, too", kind, () -> kind.buildDoubling(), WRONG_PERSON_COUNT);
            GossipSchedule line = Make.schedule(persons, MIXED, GossipSchedule.LINE);
            CHECK.refused("no neighbors, too", line, () -> line.buildDoubling(), WRONG_PERSON_COUNT);
        }
    }

    private static void doublingWrongKind() {
        for (int persons : new int[] {2, 4, 8}) {
            for (int graph : new int[] {COMPLETE, CUBE}) {
                GossipSchedule s = Make.schedule(persons, ONE_WAY, graph);
                Make.addRounds(s, 1);
                s.addCall(1, 0, true);
                CHECK.refused("one-way doubling of " + persons, s, () -> s.buildDoubling(), WRONG_KIND);
            }
        }
    }

    private static void doublingKindSecond() {
        for (int persons : new int[] {2, 4, 8}) {
            for (int graph = GossipSchedule.RING; graph <= GossipSchedule.STAR; graph++) {
                GossipSchedule s = Make.schedule(persons, ONE_WAY, graph);
                CHECK.refused("no neighbors, too", s, () -> s.buildDoubling(), WRONG_KIND);
            }
        }
    }

    /** The sentence names kinds of graph: a ring or a line of two persons is refused, too. */
    private static void doublingNotNeighbors() {
        for (int persons : new int[] {2, 4, 8}) {
            for (int graph = COMPLETE; graph <= CUBE; graph++) {
                GossipSchedule s = Make.schedule(persons, MIXED, graph);
                Make.addRounds(s, 1);
                if (graph == COMPLETE || graph == CUBE) {
                    due("doubling in graph " + graph, s.buildDoubling(), persons == 2 ? 1 : persons == 4 ? 4 : 12);
                } else {
                    CHECK.refused("doubling in graph " + graph, s, () -> s.buildDoubling(), NOT_NEIGHBORS);
                }
            }
        }
    }

    // ---- promise 13

    private static void fourCoreCalls() {
        GossipSchedule s = Make.mixed(4);
        due("buildFourCore() of 4", s.buildFourCore(), 4);
        dueCalls("4 persons", s, 1, 23, 1002, 1013);
        s.newSchedule(5, GossipSchedule.TWO_WAY_ONLY);
        due("buildFourCore() of 5", s.buildFourCore(), 6);
        dueCalls("5 persons", s, 40, 1001, 1023, 2002, 2013, 3004);
        s.newSchedule(8, MIXED);
        due("buildFourCore() of 8", s.buildFourCore(), 12);
        dueCalls("8 persons", s, 40, 1050, 2060, 3070, 4001, 4023, 5002, 5013, 6004, 7005, 8006, 9007);
    }

    private static void fourCoreSizes() {
        for (int persons = 4; persons <= 8; persons++) {
            GossipSchedule s = Make.mixed(persons);
            due("calls of " + persons, s.buildFourCore(), 2 * persons - 4);
            due("rounds of " + persons, s.roundCount(), 2 * persons - 6);
            due("complete after all of them", s.completeAfter(), 2 * persons - 6);
        }
    }

    private static void fourCoreWrongCount() {
        for (int persons = 2; persons <= 3; persons++) {
            GossipSchedule s = Make.mixed(persons);
            Make.addSameCalls(s, 2);
            CHECK.refused("four core of " + persons, s, () -> s.buildFourCore(), WRONG_PERSON_COUNT);
        }
        due("four core of 4", Make.mixed(4).buildFourCore(), 4);
    }

    private static void fourCoreCountFirst() {
        for (int persons = 2; persons <= 3; persons++) {
            GossipSchedule kind = Make.schedule(persons, ONE_WAY, COMPLETE);
            CHECK.refused("wrong kind, too", kind, () -> kind.buildFourCore(), WRONG_PERSON_COUNT);
            GossipSchedule star = Make.schedule(persons, MIXED, GossipSchedule.STAR);
            CHECK.refused("no neighbors, too", star, () -> star.buildFourCore(), WRONG_PERSON_COUNT);
        }
    }

    private static void fourCoreWrongKind() {
        for (int persons = 4; persons <= 8; persons++) {
            GossipSchedule s = Make.schedule(persons, ONE_WAY, COMPLETE);
            Make.addRounds(s, 1);
            s.addCall(1, 0, true);
            CHECK.refused("one-way four core of " + persons, s, () -> s.buildFourCore(), WRONG_KIND);
            GossipSchedule two = Make.schedule(persons, GossipSchedule.TWO_WAY_ONLY, COMPLETE);
            due("two-way four core of " + persons, two.buildFourCore(), 2 * persons - 4);
        }
    }

    private static void fourCoreKindSecond() {
        for (int persons = 4; persons <= 8; persons++) {
            for (int graph = GossipSchedule.RING; graph <= GossipSchedule.STAR; graph++) {
                GossipSchedule s = Make.schedule(persons, ONE_WAY, graph);
                CHECK.refused("no neighbors, too", s, () -> s.buildFourCore(), WRONG_KIND);
            }
        }
    }

    /** The sentence names the kind of graph: a cube or a ring of four persons is refused, too. */
    private static void fourCoreNotNeighbors() {
        for (int persons = 4; persons <= 8; persons++) {
            for (int graph = GossipSchedule.RING; graph <= CUBE; graph++) {
                if (graph != CUBE || Make.fillsCube(persons)) {
                    GossipSchedule s = Make.schedule(persons, MIXED, graph);
                    Make.addRounds(s, 1);
                    CHECK.refused("four core in graph " + graph, s, () -> s.buildFourCore(), NOT_NEIGHBORS);
                }
            }
        }
    }

    // ---- promise 14

    private static void gatherSpreadCalls() {
        GossipSchedule s = Make.mixed(3);
        due("buildGatherSpread() of 3", s.buildGatherSpread(), 3);
        dueCalls("3 persons", s, 10, 1020, 2001);
        s.newSchedule(8, MIXED);
        due("buildGatherSpread() of 8", s.buildGatherSpread(), 13);
        dueCalls("8 persons", s, 10, 1020, 2030, 3040, 4050, 5060, 6070, 7001, 8002, 9003, 10004, 11005, 12006);
    }

    private static void oneWayGatherSpread() {
        GossipSchedule s = Make.schedule(2, ONE_WAY, COMPLETE);
        due("one-way, 2 persons", s.buildGatherSpread(), 2);
        dueCalls("2 persons, one-way", s, 110, 1101);
        s.newSchedule(8, ONE_WAY);
        due("one-way, 8 persons", s.buildGatherSpread(), 14);
        dueCalls("8 persons, one-way", s, 110, 1120, 2130, 3140, 4150, 5160, 6170,
                7101, 8102, 9103, 10104, 11105, 12106, 13107);
        due("rounds", s.roundCount(), 14);
        for (int persons = 2; persons <= 8; persons++) {
            s.newSchedule(persons, ONE_WAY);
            due("one-way, " + persons, s.buildGatherSpread(), 2 * persons - 2);
            due("complete after all of them", s.completeAfter(), 2 * persons - 2);
        }
    }

    private static void twoWayGatherSpread() {
        for (int mode = MIXED; mode <= GossipSchedule.TWO_WAY_ONLY; mode++) {
            GossipSchedule s = Make.schedule(2, mode, COMPLETE);
            due("two-way, 2 persons", s.buildGatherSpread(), 1);
            dueCalls("2 persons, two-way: no second part", s, 10);
            for (int persons = 2; persons <= 8; persons++) {
                s.newSchedule(persons, mode);
                due("two-way, " + persons, s.buildGatherSpread(), 2 * persons - 3);
                due("rounds", s.roundCount(), 2 * persons - 3);
                due("the last person knows every item", s.knowledge(persons - 1, persons - 1), (1 << persons) - 1);
                due("complete after all of them", s.completeAfter(), 2 * persons - 3);
            }
        }
    }

    /** The sentence asks who is whose neighbor: small rings, lines and cubes are fine. */
    private static void gatherSpreadNotNeighbors() {
        int[] most = {8, 3, 2, 8, 2};
        for (int graph = COMPLETE; graph <= CUBE; graph++) {
            for (int persons = 2; persons <= 8; persons++) {
                if (graph == CUBE && !Make.fillsCube(persons)) {
                    continue;
                }
                GossipSchedule s = Make.schedule(persons, MIXED, graph);
                Make.addRounds(s, 1);
                if (persons <= most[graph]) {
                    due("graph " + graph + " of " + persons, s.buildGatherSpread(), 2 * persons - 3);
                } else {
                    CHECK.refused("graph " + graph + " of " + persons, s, () -> s.buildGatherSpread(),
                            NOT_NEIGHBORS);
                }
            }
        }
    }
}
