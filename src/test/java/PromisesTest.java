/**
 * For each promise of the document a method: ordinary inputs, the edges that the document names,
 * and wrong inputs. The answers that are due are written out or follow from the document's words.
 */
public final class PromisesTest {
    private static final Check CHECK = new Check();
    private static final int LEAST = Integer.MIN_VALUE;
    private static final int MOST = Integer.MAX_VALUE;

    public static void main(String[] args) {
        promise1NewObject();
        promise2NewSchedule();
        promise3SetGraph();
        promise4AreNeighbors();
        promise5AddRound();
        promise6AddCall();
        promise6Limits();
        promise7RemoveLastRound();
        promise8Append();
        promise9ClearInput();
        promise10FirstError();
        promise11Load();
        promise11LoadErrors();
        promise12BuildDoubling();
        promise13BuildFourCore();
        promise14BuildGatherSpread();
        promises15To17Counts();
        promise18DescribeCall();
        promise19Knowledge();
        promise20CompleteAfter();
        promise21RedundantCalls();
        promise22AverageKnowledge();
        promise23LeastCalls();
        promise24IsCritical();
        promise25SmallestSufficientCalls();
        promise26SuccessProbability();
        promise27Digest();
        removedCallsAreForgotten();
        examplesOfTheDocument();
        errorsChangeNothing();
        CHECK.end();
    }

    private static void due(String call, long got, long want) {
        CHECK.due(call, got, want);
    }

    private static int firstErrorOf(int persons, String text) {
        GossipSchedule s = Make.schedule(persons, GossipSchedule.MIXED, GossipSchedule.COMPLETE);
        Make.write(s, text);
        return s.firstError();
    }

    private static void dueCalls(String what, GossipSchedule s, int... described) {
        due("calls of " + what, s.callCount(), described.length);
        for (int c = 0; c < described.length; c++) {
            due("describeCall(" + c + ") of " + what, s.describeCall(c), described[c]);
        }
    }

    private static void promise1NewObject() {
        GossipSchedule s = new GossipSchedule();
        due("new: personCount()", s.personCount(), 2);
        due("new: roundCount()", s.roundCount(), 0);
        due("new: callCount()", s.callCount(), 0);
        due("new: firstError()", s.firstError(), 0);
        due("new: clearInput()", s.clearInput(), 0);
        due("new: setGraph(COMPLETE)", s.setGraph(GossipSchedule.COMPLETE), GossipSchedule.COMPLETE);
        due("new: addRound()", s.addRound(), 1);
        due("new: two-way call in mode MIXED", s.addCall(0, 1, false), 0);
        due("new: addRound()", s.addRound(), 2);
        due("new: one-way call in mode MIXED", s.addCall(1, 0, true), 1);
    }

    private static void promise2NewSchedule() {
        GossipSchedule s = Make.loaded(4, "0-1,2-3;0-2,1-3");
        Make.write(s, "0-1");
        s.setGraph(GossipSchedule.RING);
        int[][] wrong = {{1, 0}, {9, 0}, {0, 0}, {-1, 0}, {LEAST, 0}, {MOST, 0},
            {2, -1}, {2, 3}, {8, LEAST}, {8, MOST}, {1, 3}};
        for (int[] w : wrong) {
            due("newSchedule(" + w[0] + ", " + w[1] + ")", s.newSchedule(w[0], w[1]),
                    GossipSchedule.OUT_OF_RANGE);
        }
        due("persons after errors", s.personCount(), 4);
        due("rounds after errors", s.roundCount(), 2);
        due("calls after errors", s.callCount(), 4);
        due("newSchedule(3, 2)", s.newSchedule(3, GossipSchedule.ONE_WAY_ONLY), 3);
        due("persons", s.personCount(), 3);
        due("rounds", s.roundCount(), 0);
        due("calls", s.callCount(), 0);
        due("graph", s.setGraph(GossipSchedule.COMPLETE), GossipSchedule.COMPLETE);
        due("mode, by load()", s.load(), GossipSchedule.WRONG_KIND);
        due("the buffer is kept", s.clearInput(), 3);
        for (int persons = 2; persons <= 8; persons++) {
            for (int mode = 0; mode <= 2; mode++) {
                due("newSchedule(" + persons + ", " + mode + ")", s.newSchedule(persons, mode), persons);
                s.addRound();
                due("two-way in mode " + mode, s.addCall(0, 1, false),
                        mode == 2 ? GossipSchedule.WRONG_KIND : 0);
                s.addRound();
                due("one-way in mode " + mode, s.addCall(0, 1, true),
                        mode == 1 ? GossipSchedule.WRONG_KIND : mode == 2 ? 0 : 1);
            }
        }
    }

    private static void promise3SetGraph() {
        GossipSchedule s = Make.loaded(4, "0-2;1-3");
        int previous = 0;
        for (int kind : new int[] {1, 2, 3, 4, 4, 0, 3, 1}) {
            due("setGraph(" + kind + ")", s.setGraph(kind), previous);
            previous = kind;
        }
        due("calls are kept", s.callCount(), 2);
        due("a call of persons that are no neighbors is kept", s.describeCall(0), 2);
        for (int kind : new int[] {-1, 5, LEAST, MOST}) {
            due("setGraph(" + kind + ")", s.setGraph(kind), GossipSchedule.OUT_OF_RANGE);
        }
        due("graph after errors", s.setGraph(GossipSchedule.LINE), GossipSchedule.RING);
        for (int persons = 2; persons <= 8; persons++) {
            s.newSchedule(persons, GossipSchedule.MIXED);
            boolean fits = persons == 2 || persons == 4 || persons == 8;
            due("setGraph(CUBE) of " + persons, s.setGraph(GossipSchedule.CUBE),
                    fits ? GossipSchedule.COMPLETE : GossipSchedule.WRONG_PERSON_COUNT);
            due("setGraph(5) of " + persons, s.setGraph(5), GossipSchedule.OUT_OF_RANGE);
            due("graph of " + persons, s.setGraph(GossipSchedule.COMPLETE),
                    fits ? GossipSchedule.CUBE : GossipSchedule.COMPLETE);
        }
    }

    private static void promise4AreNeighbors() {
        dueNeighbors(2, GossipSchedule.COMPLETE, "01 10");
        dueNeighbors(2, GossipSchedule.RING, "01 10");
        dueNeighbors(2, GossipSchedule.LINE, "01 10");
        dueNeighbors(2, GossipSchedule.STAR, "01 10");
        dueNeighbors(2, GossipSchedule.CUBE, "01 10");
        dueNeighbors(3, GossipSchedule.COMPLETE, "01 02 10 12 20 21");
        dueNeighbors(3, GossipSchedule.RING, "01 02 10 12 20 21");
        dueNeighbors(3, GossipSchedule.LINE, "01 10 12 21");
        dueNeighbors(3, GossipSchedule.STAR, "01 02 10 20");
        dueNeighbors(4, GossipSchedule.CUBE, "01 02 10 13 20 23 31 32");
        dueNeighbors(5, GossipSchedule.RING, "01 12 23 34 40 10 21 32 43 04");
        dueNeighbors(5, GossipSchedule.LINE, "01 12 23 34 10 21 32 43");
        dueNeighbors(5, GossipSchedule.STAR, "01 02 03 04 10 20 30 40");
        dueNeighbors(8, GossipSchedule.CUBE, "01 02 04 10 13 15 20 23 26 31 32 37 "
                + "40 45 46 51 54 57 62 64 67 73 75 76");
        GossipSchedule s = Make.schedule(3, GossipSchedule.MIXED, GossipSchedule.RING);
        for (int person : new int[] {-1, 3, 8, 32, 33, LEAST, MOST}) {
            due("areNeighbors(" + person + ", 0)", s.areNeighbors(person, 0), GossipSchedule.NO_SUCH_PERSON);
            due("areNeighbors(2, " + person + ")", s.areNeighbors(2, person), GossipSchedule.NO_SUCH_PERSON);
            due("areNeighbors of " + person + " with itself", s.areNeighbors(person, person),
                    GossipSchedule.NO_SUCH_PERSON);
        }
    }

    private static void dueNeighbors(int persons, int graph, String pairs) {
        GossipSchedule s = Make.schedule(persons, GossipSchedule.MIXED, graph);
        for (int a = 0; a < persons; a++) {
            for (int b = 0; b < persons; b++) {
                due("areNeighbors(" + a + ", " + b + ") of " + persons + " in graph " + graph,
                        s.areNeighbors(a, b), pairs.contains("" + a + b) ? 1 : 0);
            }
        }
    }

    private static void promise5AddRound() {
        GossipSchedule s = new GossipSchedule();
        for (int round = 1; round <= 16; round++) {
            due("addRound()", s.addRound(), round);
        }
        due("addRound() beyond 16", s.addRound(), GossipSchedule.TOO_MANY_ROUNDS);
        due("roundCount()", s.roundCount(), 16);
        due("removeLastRound()", s.removeLastRound(), 15);
        due("addRound()", s.addRound(), 16);
        due("a call of the 16th round", s.addCall(0, 1, false), 0);
        due("describeCall(0)", s.describeCall(0), 15001);
    }

    private static void promise6AddCall() {
        GossipSchedule s = Make.schedule(5, GossipSchedule.TWO_WAY_ONLY, GossipSchedule.LINE);
        for (int person : new int[] {-1, 5, 8, LEAST, MOST}) {
            due("addCall(" + person + ", 0)", s.addCall(person, 0, false), GossipSchedule.NO_SUCH_PERSON);
            due("addCall(0, " + person + ")", s.addCall(0, person, false), GossipSchedule.NO_SUCH_PERSON);
        }
        due("not neighbors before no round", s.addCall(0, 2, true), GossipSchedule.NOT_NEIGHBORS);
        due("same person before no round", s.addCall(1, 1, true), GossipSchedule.NOT_NEIGHBORS);
        due("no round before wrong kind", s.addCall(0, 1, true), GossipSchedule.NO_ROUND);
        s.addRound();
        due("wrong kind", s.addCall(0, 1, true), GossipSchedule.WRONG_KIND);
        due("addCall(1, 0)", s.addCall(1, 0, false), 0);
        due("busy before wrong kind", s.addCall(1, 2, true), GossipSchedule.PERSON_BUSY);
        due("busy callee", s.addCall(2, 1, false), GossipSchedule.PERSON_BUSY);
        due("the same pair again", s.addCall(0, 1, false), GossipSchedule.PERSON_BUSY);
        due("not neighbors before busy", s.addCall(1, 3, false), GossipSchedule.NOT_NEIGHBORS);
        due("addCall(3, 2)", s.addCall(3, 2, false), 1);
        due("busy by the second call", s.addCall(4, 3, false), GossipSchedule.PERSON_BUSY);
        s.addRound();
        due("a new round, nobody busy", s.addCall(3, 4, false), 2);
        dueCalls("a line of five", s, 10, 32, 1034);

        GossipSchedule one = Make.schedule(3, GossipSchedule.ONE_WAY_ONLY, GossipSchedule.COMPLETE);
        one.addRound();
        due("two-way in mode ONE_WAY_ONLY", one.addCall(0, 1, false), GossipSchedule.WRONG_KIND);
        due("one-way in mode ONE_WAY_ONLY", one.addCall(0, 1, true), 0);
        due("busy before wrong kind", one.addCall(2, 0, false), GossipSchedule.PERSON_BUSY);
    }

    private static void promise6Limits() {
        GossipSchedule s = Make.schedule(8, GossipSchedule.ONE_WAY_ONLY, GossipSchedule.COMPLETE);
        for (int call = 0; call < 28; call++) {
            if (call % 4 == 0) {
                s.addRound();
            }
            int caller = 2 * (call % 4);
            due("call " + call, s.addCall(caller, caller + 1, true), call);
        }
        due("busy before too many calls", s.addCall(0, 1, true), GossipSchedule.PERSON_BUSY);
        s.addRound();
        due("wrong kind before too many calls", s.addCall(0, 1, false), GossipSchedule.WRONG_KIND);
        due("the 29th call", s.addCall(0, 1, true), GossipSchedule.TOO_MANY_CALLS);
        due("callCount()", s.callCount(), 28);
        due("describeCall(27)", s.describeCall(27), 6167);
        due("describeCall(28)", s.describeCall(28), GossipSchedule.NO_SUCH_CALL);
        due("smallestSufficientCalls()", s.smallestSufficientCalls(), GossipSchedule.TOO_LARGE);
        s.removeLastRound();
        s.removeLastRound();
        s.addRound();
        due("room again", s.addCall(0, 1, true), 24);
    }

    private static void promise7RemoveLastRound() {
        GossipSchedule s = Make.loaded(4, "0-1,2-3;0-2;1-3,0-2");
        s.addRound();
        due("an empty round goes", s.removeLastRound(), 3);
        due("calls stay", s.callCount(), 5);
        due("a round with two calls goes", s.removeLastRound(), 2);
        due("callCount()", s.callCount(), 3);
        due("its persons are free in the round before, person 1", s.addCall(1, 3, true), 3);
        due("person 0 is still busy there", s.addCall(0, 1, false), GossipSchedule.PERSON_BUSY);
        due("removeLastRound()", s.removeLastRound(), 1);
        dueCalls("what is left", s, 1, 23);
        due("removeLastRound()", s.removeLastRound(), 0);
        due("callCount()", s.callCount(), 0);
        due("no round is left", s.removeLastRound(), GossipSchedule.NO_ROUND);
        due("roundCount()", s.roundCount(), 0);
        due("no round for a call", s.addCall(0, 1, false), GossipSchedule.NO_ROUND);
    }

    private static void promise8Append() {
        GossipSchedule s = new GossipSchedule();
        for (int code : new int[] {31, 127, 0, -1, 10, 128, 32 + 256, LEAST, MOST}) {
            due("append(" + code + ")", s.append(code), GossipSchedule.BAD_CHARACTER);
        }
        due("append(32)", s.append(32), 1);
        due("append(126)", s.append(126), 2);
        for (int length = 3; length <= 59; length++) {
            due("append('0')", s.append('0'), length);
        }
        due("append to a full buffer", s.append('0'), GossipSchedule.BUFFER_FULL);
        due("bad character before full buffer", s.append(127), GossipSchedule.BAD_CHARACTER);
        due("bad character before full buffer", s.append(31), GossipSchedule.BAD_CHARACTER);
        due("length", s.clearInput(), 59);
    }

    private static void promise9ClearInput() {
        GossipSchedule s = Make.loaded(3, "0-1;1-2");
        Make.write(s, "0-1,x");
        due("clearInput()", s.clearInput(), 5);
        due("clearInput() of an empty buffer", s.clearInput(), 0);
        due("append after it", s.append('0'), 1);
        due("the schedule stays", s.callCount(), 2);
    }

    private static void promise10FirstError() {
        due("firstError of nothing", firstErrorOf(2, ""), 0);
        String right = "0-1,2>3;3-0,1>2";
        for (int length = 0; length <= right.length(); length++) {
            String start = right.substring(0, length);
            due("firstError of " + start, firstErrorOf(4, start), length);
            for (char bad : new char[] {' ', '4', '9', '/', ':', '.', '=', '?', '+', '~'}) {
                due("firstError of " + start + bad, firstErrorOf(4, start + bad + "0-1"), length);
            }
        }
        due("callee is caller", firstErrorOf(8, "7-7"), 2);
        due("callee is caller, one-way", firstErrorOf(8, "0-1;5>5"), 6);
        due("a digit for a sign", firstErrorOf(8, "00"), 1);
        due("a comma for a sign", firstErrorOf(8, "0,"), 1);
        due("a sign for a separator", firstErrorOf(8, "0-1-"), 3);
        due("a separator for a digit", firstErrorOf(8, "0-1,;"), 4);
        for (int persons = 2; persons <= 8; persons++) {
            due("last caller of " + persons, firstErrorOf(persons, (persons - 1) + "-0"), 3);
            due("caller beyond " + persons, firstErrorOf(persons, persons + "-0"), 0);
            due("last callee of " + persons, firstErrorOf(persons, "0>" + (persons - 1)), 3);
            due("callee beyond " + persons, firstErrorOf(persons, "0>" + persons), 2);
        }
        GossipSchedule s = Make.schedule(5, GossipSchedule.MIXED, GossipSchedule.COMPLETE);
        Make.write(s, "0-1;0-4");
        due("five persons", s.firstError(), 7);
        s.newSchedule(4, GossipSchedule.MIXED);
        due("the same text, four persons", s.firstError(), 6);
        due("asking changes nothing", s.clearInput(), 7);
    }

    private static void promise11Load() {
        GossipSchedule s = Make.loaded(4, "0-1,2-3;0-2,1-3");
        dueCalls("two rounds", s, 1, 23, 1002, 1013);
        due("roundCount()", s.roundCount(), 2);
        due("the buffer is cleared", s.clearInput(), 0);
        s.addRound();
        s.addRound();
        s.setGraph(GossipSchedule.RING);
        Make.write(s, "3>0");
        due("load()", s.load(), 1);
        due("all rounds are replaced", s.roundCount(), 1);
        dueCalls("one round", s, 130);
        due("the graph is kept", s.setGraph(GossipSchedule.COMPLETE), GossipSchedule.RING);
        due("persons are kept", s.personCount(), 4);
        due("more calls go to the last round", s.addCall(1, 2, false), 1);
        due("where the loaded persons are busy", s.addCall(3, 2, false), GossipSchedule.PERSON_BUSY);

        String full = "0-1;1>0;0-1;1>0;0-1;1>0;0-1;1>0;0-1;1>0;0-1;1>0;0-1;1>0;0-1";
        GossipSchedule longest = Make.loaded(2, full);
        due("59 characters", full.length(), 59);
        due("15 rounds", longest.roundCount(), 15);
        due("the last call", longest.describeCall(14), 14001);
        due("the call before it", longest.describeCall(13), 13110);
    }

    private static void promise11LoadErrors() {
        dueLoad(4, 0, 0, "", GossipSchedule.INVALID_INPUT);
        dueLoad(4, 0, 0, "0", GossipSchedule.INVALID_INPUT);
        dueLoad(4, 0, 0, "0-", GossipSchedule.INVALID_INPUT);
        dueLoad(4, 0, 0, "0-1,", GossipSchedule.INVALID_INPUT);
        dueLoad(4, 0, 0, "0-1;", GossipSchedule.INVALID_INPUT);
        dueLoad(4, 0, 0, "0-1;2", GossipSchedule.INVALID_INPUT);
        dueLoad(4, 0, 0, "0-0", GossipSchedule.INVALID_INPUT);
        dueLoad(4, 0, 0, "0-4", GossipSchedule.INVALID_INPUT);
        dueLoad(4, 0, 0, "0-1;;0-1", GossipSchedule.INVALID_INPUT);
        dueLoad(4, 1, 2, "0>2,0>4", GossipSchedule.INVALID_INPUT);
        dueLoad(4, 0, 0, "0-1,1-2", GossipSchedule.PERSON_BUSY);
        dueLoad(4, 0, 0, "0-1,2>0", GossipSchedule.PERSON_BUSY);
        dueLoad(4, 0, 0, "0-1;1-2,2-3", GossipSchedule.PERSON_BUSY);
        dueLoad(4, 0, 0, "0-1,2-3,0-1", GossipSchedule.PERSON_BUSY);
        dueLoad(4, 0, 0, "0-1;1-2;2-3", 3);
        dueLoad(4, 1, 0, "0-1;0>1", GossipSchedule.WRONG_KIND);
        dueLoad(4, 2, 0, "0>1;0-1", GossipSchedule.WRONG_KIND);
        dueLoad(4, 2, 0, "0>1,2>3", 2);
        dueLoad(4, 0, 2, "0-1;0-2", GossipSchedule.NOT_NEIGHBORS);
        dueLoad(4, 1, 2, "0>2", GossipSchedule.NOT_NEIGHBORS);
        dueLoad(4, 1, 2, "0-1,1>3", GossipSchedule.NOT_NEIGHBORS);
        dueLoad(4, 1, 2, "0-1,1>2", GossipSchedule.PERSON_BUSY);
        dueLoad(4, 1, 2, "0>1,1-2;0-2", GossipSchedule.WRONG_KIND);
        dueLoad(4, 0, 2, "0-1,1-2;0-2", GossipSchedule.PERSON_BUSY);
    }

    private static void dueLoad(int persons, int mode, int graph, String text, int want) {
        GossipSchedule s = Make.schedule(persons, mode, graph);
        s.addRound();
        s.addRound();
        Make.write(s, text);
        due("load() of '" + text + "', mode " + mode + ", graph " + graph, s.load(), want);
        due("calls after '" + text + "'", s.callCount(), want < 0 ? 0 : want);
        if (want < 0) {
            due("rounds after '" + text + "'", s.roundCount(), 2);
        }
        due("buffer after '" + text + "'", s.clearInput(), want < 0 ? text.length() : 0);
    }

    private static void promise12BuildDoubling() {
        GossipSchedule s = new GossipSchedule();
        s.addRound();
        due("buildDoubling() of 2", s.buildDoubling(), 1);
        dueCalls("doubling of 2", s, 1);
        s.newSchedule(4, GossipSchedule.TWO_WAY_ONLY);
        due("buildDoubling() of 4", s.buildDoubling(), 4);
        dueCalls("doubling of 4", s, 1, 23, 1002, 1013);
        s.newSchedule(8, GossipSchedule.MIXED);
        s.setGraph(GossipSchedule.CUBE);
        Make.write(s, "0-1");
        due("buildDoubling() of 8", s.buildDoubling(), 12);
        dueCalls("doubling of 8", s, 1, 23, 45, 67, 1002, 1013, 1046, 1057, 2004, 2015, 2026, 2037);
        due("rounds", s.roundCount(), 3);
        due("completeAfter()", s.completeAfter(), 3);
        due("the buffer is kept", s.clearInput(), 3);
        for (int persons = 2; persons <= 8; persons++) {
            boolean fits = persons == 2 || persons == 4 || persons == 8;
            for (int graph = 0; graph <= 3; graph++) {
                GossipSchedule one = Make.schedule(persons, GossipSchedule.ONE_WAY_ONLY, graph);
                due("one-way doubling of " + persons, one.buildDoubling(),
                        fits ? GossipSchedule.WRONG_KIND : GossipSchedule.WRONG_PERSON_COUNT);
                GossipSchedule two = Make.schedule(persons, GossipSchedule.TWO_WAY_ONLY, graph);
                int want = !fits ? GossipSchedule.WRONG_PERSON_COUNT
                        : graph != 0 ? GossipSchedule.NOT_NEIGHBORS
                        : persons == 2 ? 1 : persons == 4 ? 4 : 12;
                due("doubling of " + persons + " in graph " + graph, two.buildDoubling(), want);
            }
        }
    }

    private static void promise13BuildFourCore() {
        GossipSchedule s = Make.loaded(4, "0-1;1-2");
        due("buildFourCore() of 4", s.buildFourCore(), 4);
        dueCalls("four core of 4", s, 1, 23, 1002, 1013);
        s.newSchedule(5, GossipSchedule.TWO_WAY_ONLY);
        due("buildFourCore() of 5", s.buildFourCore(), 6);
        dueCalls("four core of 5", s, 40, 1001, 1023, 2002, 2013, 3004);
        s.newSchedule(8, GossipSchedule.MIXED);
        due("buildFourCore() of 8", s.buildFourCore(), 12);
        dueCalls("four core of 8", s, 40, 1050, 2060, 3070, 4001, 4023, 5002, 5013,
                6004, 7005, 8006, 9007);
        due("rounds", s.roundCount(), 10);
        due("completeAfter()", s.completeAfter(), 10);
        for (int persons = 2; persons <= 8; persons++) {
            for (int graph = 0; graph <= 4; graph++) {
                if (graph == 4 && persons != 2 && persons != 4 && persons != 8) {
                    continue;
                }
                GossipSchedule one = Make.schedule(persons, GossipSchedule.ONE_WAY_ONLY, graph);
                due("one-way four core of " + persons, one.buildFourCore(),
                        persons < 4 ? GossipSchedule.WRONG_PERSON_COUNT : GossipSchedule.WRONG_KIND);
                GossipSchedule two = Make.schedule(persons, GossipSchedule.MIXED, graph);
                int want = persons < 4 ? GossipSchedule.WRONG_PERSON_COUNT
                        : graph != 0 ? GossipSchedule.NOT_NEIGHBORS : 2 * persons - 4;
                due("four core of " + persons + " in graph " + graph, two.buildFourCore(), want);
            }
        }
    }

    private static void promise14BuildGatherSpread() {
        GossipSchedule s = Make.loaded(4, "0-1;1-2");
        due("buildGatherSpread() of 4", s.buildGatherSpread(), 5);
        dueCalls("gather and spread of 4", s, 10, 1020, 2030, 3001, 4002);
        due("completeAfter()", s.completeAfter(), 5);
        s.newSchedule(4, GossipSchedule.ONE_WAY_ONLY);
        due("buildGatherSpread() of 4, one-way", s.buildGatherSpread(), 6);
        dueCalls("gather and spread of 4, one-way", s, 110, 1120, 2130, 3101, 4102, 5103);
        due("completeAfter()", s.completeAfter(), 6);
        for (int persons = 2; persons <= 8; persons++) {
            for (int mode = 0; mode <= 2; mode++) {
                int calls = mode == 2 ? 2 * persons - 2 : 2 * persons - 3;
                dueGatherSpread(persons, mode, GossipSchedule.COMPLETE, calls);
                dueGatherSpread(persons, mode, GossipSchedule.STAR, calls);
                dueGatherSpread(persons, mode, GossipSchedule.RING,
                        persons <= 3 ? calls : GossipSchedule.NOT_NEIGHBORS);
                dueGatherSpread(persons, mode, GossipSchedule.LINE,
                        persons <= 2 ? calls : GossipSchedule.NOT_NEIGHBORS);
            }
        }
        dueGatherSpread(2, GossipSchedule.MIXED, GossipSchedule.CUBE, 1);
        dueGatherSpread(4, GossipSchedule.MIXED, GossipSchedule.CUBE, GossipSchedule.NOT_NEIGHBORS);
        dueGatherSpread(8, GossipSchedule.MIXED, GossipSchedule.CUBE, GossipSchedule.NOT_NEIGHBORS);
    }

    private static void dueGatherSpread(int persons, int mode, int graph, int want) {
        GossipSchedule s = Make.schedule(persons, mode, graph);
        s.addRound();
        due("gather and spread of " + persons + ", mode " + mode + ", graph " + graph,
                s.buildGatherSpread(), want);
        due("its rounds", s.roundCount(), want < 0 ? 1 : want);
        due("its end", s.completeAfter(), want < 0 ? GossipSchedule.NEVER : want);
    }

    private static void promises15To17Counts() {
        GossipSchedule s = Make.loaded(7, "0-1,2-3,4-5;0-6");
        s.addRound();
        due("personCount()", s.personCount(), 7);
        due("roundCount()", s.roundCount(), 3);
        due("callCount()", s.callCount(), 4);
        s.removeLastRound();
        s.removeLastRound();
        due("roundCount() after removing", s.roundCount(), 1);
        due("callCount() after removing", s.callCount(), 3);
        s.newSchedule(5, GossipSchedule.MIXED);
        due("personCount() of the new one", s.personCount(), 5);
        due("roundCount() of the new one", s.roundCount(), 0);
        due("callCount() of the new one", s.callCount(), 0);
    }

    private static void promise18DescribeCall() {
        GossipSchedule s = Make.schedule(8, GossipSchedule.MIXED, GossipSchedule.COMPLETE);
        due("describeCall(0) of none", s.describeCall(0), GossipSchedule.NO_SUCH_CALL);
        s.addRound();
        s.addRound();
        s.addCall(7, 6, true);
        s.addCall(0, 5, false);
        s.addRound();
        s.addRound();
        s.addCall(6, 7, false);
        dueCalls("rounds with empty ones between", s, 1176, 1005, 3067);
        for (int call : new int[] {-1, 3, 28, 29, LEAST, MOST}) {
            due("describeCall(" + call + ")", s.describeCall(call), GossipSchedule.NO_SUCH_CALL);
        }
        s.removeLastRound();
        due("describeCall(2) of a removed call", s.describeCall(2), GossipSchedule.NO_SUCH_CALL);
    }

    private static void promise19Knowledge() {
        GossipSchedule s = Make.loaded(4, "0>1,2-3;1>2;2-0,3>1");
        int[][] want = {{1, 2, 4, 8}, {1, 3, 12, 12}, {1, 3, 15, 12}, {15, 15, 15, 12}};
        for (int rounds = 0; rounds <= 3; rounds++) {
            for (int person = 0; person < 4; person++) {
                due("knowledge(" + person + ", " + rounds + ")", s.knowledge(person, rounds),
                        want[rounds][person]);
            }
        }
        for (int person : new int[] {-1, 4, 8, LEAST, MOST}) {
            due("knowledge(" + person + ", 0)", s.knowledge(person, 0), GossipSchedule.NO_SUCH_PERSON);
            due("no person before no round", s.knowledge(person, 4), GossipSchedule.NO_SUCH_PERSON);
        }
        for (int rounds : new int[] {-1, 4, 16, LEAST, MOST}) {
            due("knowledge(3, " + rounds + ")", s.knowledge(3, rounds), GossipSchedule.OUT_OF_RANGE);
        }
        s.addRound();
        due("after an empty round", s.knowledge(3, 4), 12);
        GossipSchedule eight = Make.schedule(8, GossipSchedule.MIXED, GossipSchedule.COMPLETE);
        eight.buildDoubling();
        due("knowledge(7, 0) of 8", eight.knowledge(7, 0), 128);
        due("knowledge(7, 2) of 8", eight.knowledge(7, 2), 240);
        due("knowledge(7, 3) of 8", eight.knowledge(7, 3), 255);
        due("knowledge(0, 3) of 8", eight.knowledge(0, 3), 255);
    }

    private static void promise20CompleteAfter() {
        GossipSchedule s = new GossipSchedule();
        due("no rounds", s.completeAfter(), GossipSchedule.NEVER);
        s.addRound();
        due("an empty round", s.completeAfter(), GossipSchedule.NEVER);
        s.addRound();
        s.addCall(0, 1, true);
        due("one way only", s.completeAfter(), GossipSchedule.NEVER);
        s.addRound();
        s.addRound();
        s.addCall(1, 0, true);
        due("both ways", s.completeAfter(), 4);
        s.addRound();
        s.addRound();
        s.addCall(0, 1, false);
        due("later rounds do not count", s.completeAfter(), 4);
        due("all but one item", Make.loaded(3, "0-1;1-2").completeAfter(),
                GossipSchedule.NEVER);
        due("three persons", Make.loaded(3, "0-1;1-2;2>0").completeAfter(), 3);
        due("the first call of a round completes", Make.loaded(4, "0-1,2-3;0-2;1-3,0-2").completeAfter(), 3);
    }

    private static void promise21RedundantCalls() {
        GossipSchedule s = new GossipSchedule();
        due("no calls", s.redundantCalls(), 0);
        due("again", Make.loaded(2, "0-1;0-1;1>0").redundantCalls(), 2);
        due("the caller of a one-way call learns nothing", Make.loaded(3, "0>1;1>0;0>1").redundantCalls(), 1);
        due("the callee knows it all", Make.loaded(3, "0>1;0>1").redundantCalls(), 1);
        due("one-way from the ignorant, then two-way", Make.loaded(3, "0>1;0-1;0-1").redundantCalls(), 1);
        due("in a schedule that is not complete", Make.loaded(4, "0-1,2-3;0-1,2-3").redundantCalls(), 2);
        due("no call is in vain", Make.loaded(4, "0-1,2-3;0-2,1-3").redundantCalls(), 0);
    }

    private static void promise22AverageKnowledge() {
        for (int persons = 2; persons <= 8; persons++) {
            GossipSchedule s = Make.schedule(persons, GossipSchedule.ONE_WAY_ONLY, GossipSchedule.COMPLETE);
            s.buildGatherSpread();
            for (int rounds = 0; rounds <= s.roundCount(); rounds++) {
                int total = 0;
                for (int person = 0; person < persons; person++) {
                    total += Integer.bitCount(s.knowledge(person, rounds));
                }
                due("averageKnowledge(" + rounds + ") of " + persons, s.averageKnowledge(rounds),
                        Float.floatToIntBits((float) total / persons));
            }
        }
        GossipSchedule s = Make.loaded(3, "0>1");
        due("a third", s.averageKnowledge(1), Float.floatToIntBits(4.0f / 3.0f));
        for (int rounds : new int[] {-1, 2, 16, LEAST, MOST}) {
            due("averageKnowledge(" + rounds + ")", s.averageKnowledge(rounds), GossipSchedule.OUT_OF_RANGE);
        }
        due("nothing yet", s.averageKnowledge(0), 1065353216);
    }

    private static void promise23LeastCalls() {
        for (int persons = 2; persons <= 8; persons++) {
            int tree = 2 * persons - 3;
            int cycle = persons < 4 ? tree : 2 * persons - 4;
            dueLeastCalls(persons, GossipSchedule.COMPLETE, cycle);
            dueLeastCalls(persons, GossipSchedule.RING, persons == 4 ? 4 : tree);
            dueLeastCalls(persons, GossipSchedule.LINE, tree);
            dueLeastCalls(persons, GossipSchedule.STAR, tree);
        }
        dueLeastCalls(2, GossipSchedule.CUBE, 1);
        dueLeastCalls(4, GossipSchedule.CUBE, 4);
        dueLeastCalls(8, GossipSchedule.CUBE, 12);
    }

    private static void dueLeastCalls(int persons, int graph, int twoWay) {
        for (int mode = 0; mode <= 2; mode++) {
            GossipSchedule s = Make.schedule(persons, mode, graph);
            String of = " of " + persons + " in graph " + graph + ", mode " + mode;
            due("leastCalls(false)" + of, s.leastCalls(false), twoWay);
            due("leastCalls(true)" + of, s.leastCalls(true), 2 * persons - 2);
        }
    }

    private static void promise24IsCritical() {
        GossipSchedule s = Make.loaded(3, "0-1;0-1;1-2;2>0;2-0");
        int[] want = {0, 0, 1, 0, 0};
        for (int call = 0; call < want.length; call++) {
            due("isCritical(" + call + ")", s.isCritical(call), want[call]);
        }
        for (int call : new int[] {-1, 5, 28, 32, LEAST, MOST}) {
            due("isCritical(" + call + ")", s.isCritical(call), GossipSchedule.NO_SUCH_CALL);
        }
        s.removeLastRound();
        due("now the one before is critical", s.isCritical(3), 1);
        s.removeLastRound();
        due("no call of an incomplete schedule is", s.isCritical(2), 0);
        due("no such call of an incomplete one", s.isCritical(3), GossipSchedule.NO_SUCH_CALL);
        GossipSchedule eight = Make.schedule(8, GossipSchedule.ONE_WAY_ONLY, GossipSchedule.COMPLETE);
        eight.buildGatherSpread();
        for (int call = 0; call < 14; call++) {
            due("isCritical(" + call + ") of 14 calls", eight.isCritical(call), 1);
        }
    }

    private static void promise25SmallestSufficientCalls() {
        GossipSchedule none = new GossipSchedule();
        due("no calls", none.smallestSufficientCalls(), GossipSchedule.NEVER);
        due("one call", Make.loaded(2, "0-1").smallestSufficientCalls(), 1);
        due("the least mask", Make.loaded(2, "0>1;0-1;1-0;1>0").smallestSufficientCalls(), 2);
        due("fewer calls before a lesser mask", Make.loaded(2, "0>1;1>0;0-1").smallestSufficientCalls(), 4);
        due("incomplete", Make.loaded(3, "0-1;1-2").smallestSufficientCalls(), GossipSchedule.NEVER);
        due("redundant ones left out", Make.loaded(3, "0-1;0-1;1-2;2>0;2-0").smallestSufficientCalls(), 13);
        GossipSchedule twelve = Make.loaded(2, "0>1;0>1;0>1;0>1;0>1;0>1;0>1;0>1;0>1;0>1;0>1;1>0");
        due("12 calls", twelve.smallestSufficientCalls(), 2049);
        twelve.addRound();
        due("the 13th call", twelve.addCall(0, 1, false), 12);
        due("13 calls", twelve.smallestSufficientCalls(), GossipSchedule.TOO_LARGE);
        GossipSchedule many = Make.schedule(8, GossipSchedule.MIXED, GossipSchedule.COMPLETE);
        for (int call = 0; call < 13; call++) {
            many.addRound();
            many.addCall(0, 1, false);
        }
        due("too large before incomplete", many.smallestSufficientCalls(), GossipSchedule.TOO_LARGE);
        many.removeLastRound();
        due("12 calls, incomplete", many.smallestSufficientCalls(), GossipSchedule.NEVER);
    }

    private static void promise26SuccessProbability() {
        GossipSchedule s = new GossipSchedule();
        due("no calls", s.successProbability(100), Double.doubleToLongBits(0.0));
        GossipSchedule one = Make.loaded(2, "0-1");
        for (int percent = 0; percent <= 100; percent++) {
            due("one call, " + percent, one.successProbability(percent),
                    Double.doubleToLongBits(percent / 100.0));
        }
        GossipSchedule two = Make.loaded(2, "0-1;1-0");
        for (int percent = 0; percent <= 100; percent++) {
            double p = percent / 100.0;
            double sum = 0.0;
            sum += 1.0 * p * (1.0 - p);
            sum += 1.0 * (1.0 - p) * p;
            sum += 1.0 * p * p;
            due("two calls, " + percent, two.successProbability(percent), Double.doubleToLongBits(sum));
        }
        GossipSchedule eight = Make.schedule(8, GossipSchedule.MIXED, GossipSchedule.COMPLETE);
        eight.buildDoubling();
        double least = 1.0;
        for (int call = 0; call < 12; call++) {
            least *= 1 / 100.0;
        }
        due("twelve calls, 1", eight.successProbability(1), Double.doubleToLongBits(least));
        due("twelve calls, 0", eight.successProbability(0), 0);
        due("twelve calls, 100", eight.successProbability(100), Double.doubleToLongBits(1.0));
        for (int percent : new int[] {-1, 101, LEAST, MOST}) {
            due("percent " + percent, eight.successProbability(percent), GossipSchedule.OUT_OF_RANGE);
        }
        eight.addRound();
        eight.addCall(0, 1, true);
        due("13 calls", eight.successProbability(50), GossipSchedule.TOO_LARGE);
        due("out of range before too large", eight.successProbability(101), GossipSchedule.OUT_OF_RANGE);
        due("out of range before too large", eight.successProbability(-1), GossipSchedule.OUT_OF_RANGE);
    }

    private static void promise27Digest() {
        GossipSchedule fresh = new GossipSchedule();
        long[] values = {2, 0, 0, 0, 0, 1, 2, 1065353216, -1, 0, 1, 2, -1, 0, 0};
        due("digest() of a new object", fresh.digest(), hashOf(values));
        due("digest() changes nothing", fresh.digest(), hashOf(values));

        GossipSchedule s = Make.schedule(2, GossipSchedule.ONE_WAY_ONLY, GossipSchedule.LINE);
        Make.write(s, "0>1;1>0");
        s.load();
        s.append('x');
        s.append(' ');
        long[] more = {2, 2, 2, 2, 2, 101, 1, 1110, 1,
            1, 2, Float.floatToIntBits(1.0f), 1, 3, Float.floatToIntBits(1.5f),
            3, 3, Float.floatToIntBits(2.0f), 2, 0, 1, 2, 3,
            Double.doubleToLongBits(0.25), 2, 'x', ' '};
        due("digest() of two one-way calls", s.digest(), hashOf(more));

        GossipSchedule large = Make.schedule(2, GossipSchedule.MIXED, GossipSchedule.COMPLETE);
        long[] big = new long[13 * 2 + 5 + 14 * 3 + 7];
        big[0] = 2;
        big[3] = 13;
        big[4] = 13;
        int at = 5;
        for (int call = 0; call < 13; call++) {
            large.addRound();
            large.addCall(0, 1, false);
            big[at++] = 1000 * call + 1;
            big[at++] = 0;
        }
        for (int rounds = 0; rounds <= 13; rounds++) {
            big[at++] = rounds == 0 ? 1 : 3;
            big[at++] = rounds == 0 ? 2 : 3;
            big[at++] = Float.floatToIntBits(rounds == 0 ? 1.0f : 2.0f);
        }
        for (long value : new long[] {1, 12, 1, 2, -15, -15, 0}) {
            big[at++] = value;
        }
        due("digest() of 13 calls", large.digest(), hashOf(big));
    }

    private static long hashOf(long[] values) {
        long hash = 1759L;
        for (long value : values) {
            hash = 31L * hash + value;
        }
        return hash;
    }

    private static void removedCallsAreForgotten() {
        GossipSchedule s = Make.loaded(3, "0-1;1-2;2>0");
        due("complete before removing", s.completeAfter(), 3);
        s.removeLastRound();
        s.addRound();
        due("completeAfter() without the removed call", s.completeAfter(), GossipSchedule.NEVER);
        due("knowledge(0, 3) without the removed call", s.knowledge(0, 3), 3);
        due("averageKnowledge(3) without it", s.averageKnowledge(3), Float.floatToIntBits(8.0f / 3.0f));
        due("isCritical(0) without it", s.isCritical(0), 0);
        due("smallestSufficientCalls() without it", s.smallestSufficientCalls(), GossipSchedule.NEVER);
        due("successProbability(100) without it", s.successProbability(100), 0);
        due("another call instead", s.addCall(1, 0, true), 2);
        due("its description", s.describeCall(2), 2110);
        s.removeLastRound();
        s.removeLastRound();
        s.addRound();
        s.addCall(0, 1, false);
        due("redundantCalls() of what stands", s.redundantCalls(), 1);
        s.removeLastRound();
        due("redundantCalls() without the removed call", s.redundantCalls(), 0);
        s.newSchedule(2, GossipSchedule.MIXED);
        s.addRound();
        due("knowledge(0, 1) of a new schedule", s.knowledge(0, 1), 1);
        due("completeAfter() of a new schedule", s.completeAfter(), GossipSchedule.NEVER);
    }

    private static void examplesOfTheDocument() {
        GossipSchedule s = new GossipSchedule();
        due("example 1", s.newSchedule(4, 0), 4);
        due("example 1", s.addRound(), 1);
        due("example 1", s.addCall(0, 1, false), 0);
        due("example 1", s.addCall(2, 3, false), 1);
        due("example 1", s.addRound(), 2);
        due("example 1", s.addCall(0, 2, false), 2);
        due("example 1", s.addCall(1, 3, false), 3);
        due("example 1", s.completeAfter(), 2);
        due("example 1", s.knowledge(0, 1), 3);
        due("example 1", s.isCritical(0), 1);
        due("example 1", s.smallestSufficientCalls(), 15);
        due("example 1", s.averageKnowledge(1), 1073741824);

        s = new GossipSchedule();
        due("example 2", s.newSchedule(3, 0), 3);
        Make.write(s, "0-1,1-2");
        due("example 2", s.load(), -9);
        due("example 2", s.clearInput(), 7);
        due("example 2", s.addRound(), 1);
        due("example 2", s.addCall(0, 1, false), 0);
        due("example 2", s.addCall(1, 2, true), -9);
        due("example 2", s.knowledge(1, 1), 3);

        s = new GossipSchedule();
        due("example 3", s.newSchedule(6, 1), 6);
        due("example 3", s.buildFourCore(), 8);
        due("example 3", s.leastCalls(false), 8);
        due("example 3", s.setGraph(3), 0);
        due("example 3", s.buildFourCore(), -10);
        due("example 3", s.buildGatherSpread(), 9);
        due("example 3", s.leastCalls(false), 9);

        s = new GossipSchedule();
        due("example 4", s.newSchedule(3, 0), 3);
        due("example 4", s.addCall(0, 3, false), -6);
        due("example 4", s.addCall(0, 0, false), -10);
        due("example 4", s.addCall(0, 1, false), -8);
        due("example 4", s.addRound(), 1);
        due("example 4", s.addCall(0, 1, true), 0);
        due("example 4", s.addCall(1, 2, false), -9);
        due("example 4", s.knowledge(0, 1), 1);
        due("example 4", s.knowledge(1, 1), 3);
    }

    private static void errorsChangeNothing() {
        GossipSchedule s = Make.schedule(6, GossipSchedule.ONE_WAY_ONLY, GossipSchedule.RING);
        Make.write(s, "0>1,2>3;5>0");
        s.load();
        Make.write(s, "0>1,1>2");
        long before = s.digest();
        int[] answers = {
            s.newSchedule(9, 0), s.setGraph(7), s.setGraph(GossipSchedule.CUBE), s.areNeighbors(6, 0),
            s.addCall(0, 6, true), s.addCall(1, 3, true), s.addCall(5, 4, true), s.addCall(1, 2, false),
            s.append(127), s.load(), s.buildDoubling(), s.buildFourCore(), s.buildGatherSpread(),
            s.describeCall(3), s.knowledge(6, 0), s.knowledge(0, 3), s.averageKnowledge(3),
            s.isCritical(3), s.completeAfter(), s.smallestSufficientCalls(),
            (int) s.successProbability(101),
        };
        for (int i = 0; i < answers.length; i++) {
            due("error " + i + " is negative", answers[i] < 0 ? 1 : 0, 1);
        }
        due("digest() after errors", s.digest(), before);
    }
}
