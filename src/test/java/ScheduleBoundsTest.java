/** A test for each sentence of promises 1 to 7 that names a boundary case. */
public final class ScheduleBoundsTest {
    private static final Check CHECK = new Check();
    private static final int LEAST = Integer.MIN_VALUE;
    private static final int MOST = Integer.MAX_VALUE;
    private static final int MIXED = GossipSchedule.MIXED;
    private static final int TWO_WAY = GossipSchedule.TWO_WAY_ONLY;
    private static final int ONE_WAY = GossipSchedule.ONE_WAY_ONLY;
    private static final int NO_SUCH_PERSON = GossipSchedule.NO_SUCH_PERSON;
    private static final int NOT_NEIGHBORS = GossipSchedule.NOT_NEIGHBORS;
    private static final int PERSON_BUSY = GossipSchedule.PERSON_BUSY;
    private static final int WRONG_KIND = GossipSchedule.WRONG_KIND;

    public static void main(String[] args) {
        CHECK.sentence("1: Creates a simulator.", ScheduleBoundsTest::ownState);
        promise2();
        promise3();
        promise4();
        promise5();
        promise6();
        promise7();
        CHECK.end();
    }

    private static void promise2() {
        CHECK.sentence("2: Starts a new schedule without rounds.", ScheduleBoundsTest::withoutRounds);
        CHECK.sentence("2: The graph becomes COMPLETE.", ScheduleBoundsTest::graphBecomesComplete);
        CHECK.sentence("2: The input buffer is kept.", ScheduleBoundsTest::bufferIsKept);
        CHECK.sentence("2: persons: the number of persons, 2 to 8", ScheduleBoundsTest::personsInRange);
        CHECK.sentence("2: mode: MIXED, TWO_WAY_ONLY or ONE_WAY_ONLY", ScheduleBoundsTest::modesInRange);
        CHECK.sentence("2: OUT_OF_RANGE if persons [..] is out of range", ScheduleBoundsTest::personsOutOfRange);
        CHECK.sentence("2: OUT_OF_RANGE if [..] mode is out of range", ScheduleBoundsTest::modeOutOfRange);
    }

    private static void promise3() {
        CHECK.sentence("3: Calls that are already in the schedule are kept, even if their persons are not neighbors",
                ScheduleBoundsTest::callsAreKept);
        CHECK.sentence("3: Returns the previous kind", ScheduleBoundsTest::previousKind);
        CHECK.sentence("3: OUT_OF_RANGE if kind is not one of these", ScheduleBoundsTest::kindOutOfRange);
        CHECK.sentence("3: OUT_OF_RANGE [..] (checked first)", ScheduleBoundsTest::kindCheckedFirst);
        CHECK.sentence("3: WRONG_PERSON_COUNT if kind is CUBE and the number of persons is not 2, 4 or 8",
                ScheduleBoundsTest::cubeOfWrongCount);
    }

    private static void promise4() {
        CHECK.sentence("4: 0 if a equals b", ScheduleBoundsTest::noNeighborOfOneself);
        CHECK.sentence("4: NO_SUCH_PERSON if one of them does not exist", ScheduleBoundsTest::noSuchNeighbor);
    }

    private static void promise5() {
        CHECK.sentence("5: Adds an empty round at the end.", ScheduleBoundsTest::emptyRound);
        CHECK.sentence("5: Returns the number of rounds", ScheduleBoundsTest::roundNumbers);
        CHECK.sentence("5: TOO_MANY_ROUNDS if there are 16 rounds.", ScheduleBoundsTest::tooManyRounds);
    }

    private static void promise6() {
        CHECK.sentence("6: Adds a call to the last round.", ScheduleBoundsTest::callOfLastRound);
        CHECK.sentence("6: Returns the number of the call", ScheduleBoundsTest::numberOfTheCall);
        CHECK.sentence("6: NO_SUCH_PERSON if one of the persons does not exist", ScheduleBoundsTest::noSuchCaller);
        CHECK.sentence("6: NOT_NEIGHBORS if they are not neighbors in the graph", ScheduleBoundsTest::notNeighbors);
        CHECK.sentence("6: NOT_NEIGHBORS [..] (also if they are the same person)", ScheduleBoundsTest::samePerson);
        CHECK.sentence("6: NO_ROUND if there are no rounds", ScheduleBoundsTest::noRoundForCall);
        CHECK.sentence("6: PERSON_BUSY if one of them takes part in another call of the last round",
                ScheduleBoundsTest::personBusy);
        CHECK.sentence("6: WRONG_KIND if the mode does not accept the call", ScheduleBoundsTest::wrongKind);
        CHECK.sentence("6: TOO_MANY_CALLS if there are 28 calls.", ScheduleBoundsTest::tooManyCalls);
        CHECK.sentence("6: The errors are checked in the order in which they are listed.",
                ScheduleBoundsTest::orderOfErrors);
    }

    private static void promise7() {
        CHECK.sentence("7: Removes the last round with its calls.", ScheduleBoundsTest::lastRoundGoes);
        CHECK.sentence("7: Returns the number of rounds that are left", ScheduleBoundsTest::roundsLeft);
        CHECK.sentence("7: NO_ROUND if there are no rounds.", ScheduleBoundsTest::noRoundToRemove);
    }

    private static void due(String call, long got, long want) {
        CHECK.due(call, got, want);
    }

    // ---- promise 1

    private static void ownState() {
        GossipSchedule first = Make.fullOfCalls(ONE_WAY);
        first.setGraph(GossipSchedule.STAR);
        Make.write(first, "0>1");
        long before = first.digest();
        GossipSchedule second = new GossipSchedule();
        due("persons of the second", second.personCount(), 2);
        due("rounds of the second", second.roundCount(), 0);
        due("calls of the second", second.callCount(), 0);
        due("buffer of the second", second.clearInput(), 0);
        Make.write(second, "~~~~");
        Make.addSameCalls(second, 3);
        due("graph of the second", second.setGraph(GossipSchedule.RING), GossipSchedule.COMPLETE);
        due("the first stays as it was", first.digest(), before);
    }

    // ---- promise 2

    private static void withoutRounds() {
        GossipSchedule s = Make.fullOfCalls(MIXED);
        Make.addRounds(s, 9);
        due("newSchedule(8, 0) over a full one", s.newSchedule(8, MIXED), 8);
        due("rounds", s.roundCount(), 0);
        due("calls", s.callCount(), 0);
        due("no call is left", s.describeCall(0), GossipSchedule.NO_SUCH_CALL);
        due("nothing is known of old calls", s.knowledge(0, 0), 1);
        due("no round is left", s.knowledge(0, 1), GossipSchedule.OUT_OF_RANGE);
        due("no round to remove", s.removeLastRound(), GossipSchedule.NO_ROUND);
        Make.addRounds(s, 1);
        due("nobody is busy", s.addCall(6, 7, false), 0);
    }

    private static void graphBecomesComplete() {
        for (int kind = GossipSchedule.COMPLETE; kind <= GossipSchedule.CUBE; kind++) {
            GossipSchedule s = Make.schedule(8, MIXED, kind);
            due("newSchedule after graph " + kind, s.newSchedule(3, TWO_WAY), 3);
            due("0 and 2", s.areNeighbors(0, 2), 1);
            due("1 and 2", s.areNeighbors(1, 2), 1);
            due("graph", s.setGraph(GossipSchedule.LINE), GossipSchedule.COMPLETE);
        }
    }

    private static void bufferIsKept() {
        GossipSchedule s = new GossipSchedule();
        due("newSchedule with an empty buffer", s.newSchedule(4, MIXED), 4);
        due("it stays empty", s.firstError(), 0);
        String full = "0-1;1>0;".repeat(8).substring(0, Make.MOST_CHARACTERS);
        Make.write(s, full);
        due("newSchedule with a full buffer", s.newSchedule(2, MIXED), 2);
        due("it stays full", s.append('0'), GossipSchedule.BUFFER_FULL);
        due("its text stays", s.firstError(), 59);
        due("its calls stay", s.load(), 15);
        due("the last of them", s.describeCall(14), 14001);
        due("the one before", s.describeCall(13), 13110);
    }

    private static void personsInRange() {
        GossipSchedule s = new GossipSchedule();
        for (int persons = 8; persons >= 2; persons--) {
            due("newSchedule(" + persons + ", 0)", s.newSchedule(persons, MIXED), persons);
            due("persons", s.personCount(), persons);
            due("the last person", s.knowledge(persons - 1, 0), 1 << persons - 1);
            due("no person beyond", s.knowledge(persons, 0), NO_SUCH_PERSON);
        }
    }

    private static void modesInRange() {
        GossipSchedule s = new GossipSchedule();
        for (int mode : new int[] {MIXED, TWO_WAY, ONE_WAY, ONE_WAY, TWO_WAY, TWO_WAY, MIXED, ONE_WAY, MIXED}) {
            due("newSchedule(3, " + mode + ")", s.newSchedule(3, mode), 3);
            Make.addRounds(s, 1);
            due("a two-way call", s.addCall(0, 1, false) >= 0 ? 1 : 0, mode == ONE_WAY ? 0 : 1);
            Make.addRounds(s, 1);
            due("a one-way call", s.addCall(0, 1, true) >= 0 ? 1 : 0, mode == TWO_WAY ? 0 : 1);
        }
    }

    private static void personsOutOfRange() {
        GossipSchedule s = Make.loaded(5, "0-1;3>4");
        Make.write(s, "0-1");
        for (int persons : new int[] {1, 9, 0, -1, -2, 10, 16, 256 + 2, 65536 + 4, LEAST, LEAST + 2, MOST}) {
            CHECK.refused("newSchedule(" + persons + ", 0)", s, () -> s.newSchedule(persons, MIXED),
                    GossipSchedule.OUT_OF_RANGE);
            CHECK.refused("newSchedule(" + persons + ", 7)", s, () -> s.newSchedule(persons, 7),
                    GossipSchedule.OUT_OF_RANGE);
        }
    }

    private static void modeOutOfRange() {
        GossipSchedule s = Make.loaded(5, "0-1;3>4");
        Make.write(s, "0-1");
        for (int mode : new int[] {-1, 3, 4, 256, -256, LEAST, MOST}) {
            CHECK.refused("newSchedule(2, " + mode + ")", s, () -> s.newSchedule(2, mode),
                    GossipSchedule.OUT_OF_RANGE);
            CHECK.refused("newSchedule(8, " + mode + ")", s, () -> s.newSchedule(8, mode),
                    GossipSchedule.OUT_OF_RANGE);
        }
    }

    // ---- promise 3

    private static void callsAreKept() {
        GossipSchedule s = Make.loaded(4, "0-3,1-2;0-2,1-3");
        for (int kind : new int[] {GossipSchedule.LINE, GossipSchedule.RING, GossipSchedule.STAR,
            GossipSchedule.CUBE, GossipSchedule.COMPLETE}) {
            s.setGraph(kind);
            due("rounds in graph " + kind, s.roundCount(), 2);
            due("calls in graph " + kind, s.callCount(), 4);
            due("call 0 in graph " + kind, s.describeCall(0), 3);
            due("call 3 in graph " + kind, s.describeCall(3), 1013);
            due("complete in graph " + kind, s.completeAfter(), 2);
            due("critical in graph " + kind, s.isCritical(2), 1);
        }
        s.setGraph(GossipSchedule.LINE);
        due("their persons are still busy", s.addCall(0, 1, false), PERSON_BUSY);
    }

    private static void previousKind() {
        GossipSchedule s = Make.mixed(8);
        int previous = GossipSchedule.COMPLETE;
        for (int kind : new int[] {4, 4, 3, 3, 2, 2, 1, 1, 0, 0, 4, 0}) {
            due("setGraph(" + kind + ")", s.setGraph(kind), previous);
            previous = kind;
        }
    }

    private static void kindOutOfRange() {
        GossipSchedule s = Make.schedule(4, MIXED, GossipSchedule.STAR);
        for (int kind : new int[] {-1, 5, -5, 8, 256, 65536 + 1, LEAST, MOST}) {
            CHECK.refused("setGraph(" + kind + ")", s, () -> s.setGraph(kind), GossipSchedule.OUT_OF_RANGE);
        }
        due("the graph is still the star", s.setGraph(GossipSchedule.COMPLETE), GossipSchedule.STAR);
    }

    private static void kindCheckedFirst() {
        for (int persons : new int[] {3, 5, 6, 7}) {
            GossipSchedule s = Make.mixed(persons);
            due("setGraph(5) of " + persons, s.setGraph(5), GossipSchedule.OUT_OF_RANGE);
            due("setGraph(-1) of " + persons, s.setGraph(-1), GossipSchedule.OUT_OF_RANGE);
        }
    }

    private static void cubeOfWrongCount() {
        for (int persons = 2; persons <= 8; persons++) {
            GossipSchedule s = Make.schedule(persons, MIXED, GossipSchedule.RING);
            if (Make.fillsCube(persons)) {
                due("a cube of " + persons, s.setGraph(GossipSchedule.CUBE), GossipSchedule.RING);
                due("is set", s.setGraph(GossipSchedule.LINE), GossipSchedule.CUBE);
            } else {
                CHECK.refused("a cube of " + persons, s, () -> s.setGraph(GossipSchedule.CUBE),
                        GossipSchedule.WRONG_PERSON_COUNT);
                due("other kinds are fine", s.setGraph(GossipSchedule.STAR), GossipSchedule.RING);
            }
        }
    }

    // ---- promise 4

    private static void noNeighborOfOneself() {
        for (int kind = GossipSchedule.COMPLETE; kind <= GossipSchedule.CUBE; kind++) {
            for (int persons = 2; persons <= 8; persons++) {
                if (kind == GossipSchedule.CUBE && !Make.fillsCube(persons)) {
                    continue;
                }
                GossipSchedule s = Make.schedule(persons, MIXED, kind);
                for (int a = 0; a < persons; a++) {
                    due(a + " and itself in graph " + kind + " of " + persons, s.areNeighbors(a, a), 0);
                }
            }
        }
    }

    private static void noSuchNeighbor() {
        for (int kind = GossipSchedule.COMPLETE; kind <= GossipSchedule.CUBE; kind++) {
            GossipSchedule s = Make.schedule(4, MIXED, kind);
            for (int person : new int[] {-1, 4, 7, 8, 32, 33, 256, LEAST, LEAST + 1, MOST}) {
                due("areNeighbors(" + person + ", 0)", s.areNeighbors(person, 0), NO_SUCH_PERSON);
                due("areNeighbors(3, " + person + ")", s.areNeighbors(3, person), NO_SUCH_PERSON);
                due("areNeighbors of " + person + " twice", s.areNeighbors(person, person), NO_SUCH_PERSON);
            }
        }
    }

    // ---- promise 5

    private static void emptyRound() {
        GossipSchedule s = Make.loaded(4, "0-1,2-3");
        due("addRound()", s.addRound(), 2);
        due("no call more", s.callCount(), 2);
        due("nothing is learnt in it", s.knowledge(0, 2), 3);
        due("the round before is still the first", s.describeCall(1), 23);
        due("nobody is busy in it", s.addCall(0, 3, false), 2);
        due("it is at the end", s.describeCall(2), 1003);
    }

    private static void roundNumbers() {
        GossipSchedule s = new GossipSchedule();
        for (int round = 1; round <= Make.MOST_ROUNDS; round++) {
            due("addRound()", s.addRound(), round);
            due("roundCount()", s.roundCount(), round);
        }
    }

    private static void tooManyRounds() {
        GossipSchedule s = new GossipSchedule();
        Make.addRounds(s, 15);
        due("round 16", s.addRound(), 16);
        CHECK.refused("round 17", s, () -> s.addRound(), GossipSchedule.TOO_MANY_ROUNDS);
        CHECK.refused("round 17 again", s, () -> s.addRound(), GossipSchedule.TOO_MANY_ROUNDS);
        due("one less", s.removeLastRound(), 15);
        due("round 16 again", s.addRound(), 16);
    }

    // ---- promise 6

    private static void callOfLastRound() {
        GossipSchedule s = new GossipSchedule();
        for (int round = 0; round < Make.MOST_ROUNDS; round++) {
            Make.addRounds(s, 1);
            due("a call of round " + round, s.addCall(1, 0, round % 2 == 1), round);
            due("its round", s.describeCall(round), 1000 * round + 100 * (round % 2) + 10);
        }
    }

    private static void numberOfTheCall() {
        GossipSchedule s = Make.mixed(8);
        int call = 0;
        for (int round = 0; round < 7; round++) {
            Make.addRounds(s, 1);
            for (int caller = 7; caller > 0; caller -= 2) {
                due("call " + call, s.addCall(caller, caller - 1, false), call);
                call++;
            }
        }
        due("calls", s.callCount(), 28);
    }

    private static void noSuchCaller() {
        GossipSchedule s = Make.mixed(3);
        Make.addRounds(s, 1);
        for (int person : new int[] {-1, 3, 7, 8, 32, 256, LEAST, MOST}) {
            CHECK.refused("caller " + person, s, () -> s.addCall(person, 0, false), NO_SUCH_PERSON);
            CHECK.refused("callee " + person, s, () -> s.addCall(2, person, true), NO_SUCH_PERSON);
            CHECK.refused("both " + person, s, () -> s.addCall(person, person, false), NO_SUCH_PERSON);
        }
        due("the last and the first", s.addCall(2, 0, false), 0);
    }

    private static void notNeighbors() {
        for (int kind = GossipSchedule.COMPLETE; kind <= GossipSchedule.CUBE; kind++) {
            for (int a = 0; a < 8; a++) {
                GossipSchedule s = Make.schedule(8, MIXED, kind);
                for (int b = 0; b < 8; b++) {
                    Make.addRounds(s, 1);
                    boolean joined = s.areNeighbors(a, b) == 1;
                    int want = joined ? s.callCount() : NOT_NEIGHBORS;
                    due("addCall(" + a + ", " + b + ") in graph " + kind, s.addCall(a, b, false), want);
                }
            }
        }
    }

    private static void samePerson() {
        for (int persons = 2; persons <= 8; persons++) {
            GossipSchedule s = Make.mixed(persons);
            Make.addRounds(s, 1);
            for (int a = 0; a < persons; a++) {
                due(a + " with itself", s.addCall(a, a, false), NOT_NEIGHBORS);
                due(a + " with itself, one-way", s.addCall(a, a, true), NOT_NEIGHBORS);
            }
        }
    }

    private static void noRoundForCall() {
        GossipSchedule s = new GossipSchedule();
        CHECK.refused("a new object", s, () -> s.addCall(0, 1, false), GossipSchedule.NO_ROUND);
        Make.addSameCalls(s, 1);
        s.removeLastRound();
        CHECK.refused("all rounds removed", s, () -> s.addCall(0, 1, true), GossipSchedule.NO_ROUND);
        Make.addSameCalls(s, 2);
        s.newSchedule(2, MIXED);
        CHECK.refused("a new schedule", s, () -> s.addCall(1, 0, false), GossipSchedule.NO_ROUND);
    }

    private static void personBusy() {
        GossipSchedule s = Make.mixed(5);
        Make.addRounds(s, 1);
        due("0 calls 1", s.addCall(0, 1, true), 0);
        CHECK.refused("a caller calls again", s, () -> s.addCall(0, 2, false), PERSON_BUSY);
        CHECK.refused("a caller is called", s, () -> s.addCall(2, 0, false), PERSON_BUSY);
        CHECK.refused("a callee calls", s, () -> s.addCall(1, 2, true), PERSON_BUSY);
        CHECK.refused("a callee is called again", s, () -> s.addCall(2, 1, true), PERSON_BUSY);
        CHECK.refused("the same call", s, () -> s.addCall(0, 1, true), PERSON_BUSY);
        CHECK.refused("the call turned round", s, () -> s.addCall(1, 0, false), PERSON_BUSY);
        due("the others are free", s.addCall(4, 3, false), 1);
        CHECK.refused("busy by a later call", s, () -> s.addCall(2, 3, false), PERSON_BUSY);
        CHECK.refused("busy by the first call still", s, () -> s.addCall(2, 0, false), PERSON_BUSY);
        Make.addRounds(s, 1);
        due("free in the next round", s.addCall(0, 1, true), 2);
        due("free there, too", s.addCall(2, 3, true), 3);
        s.removeLastRound();
        CHECK.refused("busy when the round is the last again", s, () -> s.addCall(3, 2, true), PERSON_BUSY);
        GossipSchedule loaded = Make.loaded(4, "0-1;2-3");
        CHECK.refused("busy in a loaded round", loaded, () -> loaded.addCall(0, 3, false), PERSON_BUSY);
        due("free in it", loaded.addCall(0, 1, false), 2);
        GossipSchedule built = Make.mixed(3);
        built.buildGatherSpread();
        CHECK.refused("busy in a built round", built, () -> built.addCall(2, 1, false), PERSON_BUSY);
    }

    private static void wrongKind() {
        GossipSchedule two = Make.schedule(4, TWO_WAY, GossipSchedule.COMPLETE);
        Make.addRounds(two, 1);
        CHECK.refused("one-way in TWO_WAY_ONLY", two, () -> two.addCall(0, 1, true), WRONG_KIND);
        due("two-way in TWO_WAY_ONLY", two.addCall(0, 1, false), 0);
        GossipSchedule one = Make.schedule(4, ONE_WAY, GossipSchedule.COMPLETE);
        Make.addRounds(one, 1);
        CHECK.refused("two-way in ONE_WAY_ONLY", one, () -> one.addCall(0, 1, false), WRONG_KIND);
        due("one-way in ONE_WAY_ONLY", one.addCall(0, 1, true), 0);
        GossipSchedule mixed = Make.mixed(4);
        Make.addRounds(mixed, 1);
        due("two-way in MIXED", mixed.addCall(0, 1, false), 0);
        due("one-way in MIXED", mixed.addCall(2, 3, true), 1);
    }

    private static void tooManyCalls() {
        GossipSchedule s = Make.fullOfCalls(MIXED);
        Make.addRounds(s, 1);
        CHECK.refused("call 29", s, () -> s.addCall(0, 1, false), GossipSchedule.TOO_MANY_CALLS);
        CHECK.refused("call 29, one-way", s, () -> s.addCall(2, 3, true), GossipSchedule.TOO_MANY_CALLS);
        s.removeLastRound();
        s.removeLastRound();
        Make.addRounds(s, 1);
        for (int call = 24; call < 28; call++) {
            int caller = 2 * (call - 24);
            due("room again", s.addCall(caller, caller + 1, true), call);
        }
        Make.addRounds(s, 1);
        CHECK.refused("call 29 again", s, () -> s.addCall(0, 1, false), GossipSchedule.TOO_MANY_CALLS);
    }

    /** Each pair of errors that one call can have at once: the one listed earlier is answered. */
    private static void orderOfErrors() {
        GossipSchedule none = Make.schedule(4, TWO_WAY, GossipSchedule.LINE);
        due("no person, no neighbors", none.addCall(4, 4, true), NO_SUCH_PERSON);
        due("no person, no round", none.addCall(3, 4, false), NO_SUCH_PERSON);
        due("no neighbors, no round", none.addCall(0, 2, false), NOT_NEIGHBORS);
        due("same person, no round", none.addCall(0, 0, true), NOT_NEIGHBORS);
        due("no round, wrong kind", none.addCall(0, 1, true), GossipSchedule.NO_ROUND);
        GossipSchedule busy = Make.schedule(4, TWO_WAY, GossipSchedule.LINE);
        Make.addRounds(busy, 1);
        busy.addCall(0, 1, false);
        due("no person, busy", busy.addCall(0, 4, false), NO_SUCH_PERSON);
        due("no person, wrong kind", busy.addCall(-1, 3, true), NO_SUCH_PERSON);
        due("no neighbors, busy", busy.addCall(0, 2, false), NOT_NEIGHBORS);
        due("same person, busy", busy.addCall(1, 1, false), NOT_NEIGHBORS);
        due("same person, wrong kind", busy.addCall(3, 3, true), NOT_NEIGHBORS);
        due("busy, wrong kind", busy.addCall(1, 2, true), PERSON_BUSY);
        due("wrong kind alone", busy.addCall(2, 3, true), WRONG_KIND);
        GossipSchedule full = Make.fullOfCalls(ONE_WAY);
        due("busy, too many calls", full.addCall(0, 2, true), PERSON_BUSY);
        due("busy, wrong kind, too many calls", full.addCall(0, 2, false), PERSON_BUSY);
        Make.addRounds(full, 1);
        due("no person, too many calls", full.addCall(0, 8, true), NO_SUCH_PERSON);
        due("same person, too many calls", full.addCall(5, 5, true), NOT_NEIGHBORS);
        due("wrong kind, too many calls", full.addCall(0, 2, false), WRONG_KIND);
        due("too many calls alone", full.addCall(0, 2, true), GossipSchedule.TOO_MANY_CALLS);
        full.setGraph(GossipSchedule.LINE);
        due("no neighbors, too many calls", full.addCall(0, 2, true), NOT_NEIGHBORS);
    }

    // ---- promise 7

    private static void lastRoundGoes() {
        GossipSchedule s = Make.loaded(8, "0-1,2-3,4-5,6-7;0-2;1-3,4-6");
        Make.addRounds(s, 2);
        int[] calls = {7, 7, 5, 4, 0};
        for (int i = 0; i < calls.length; i++) {
            due("removeLastRound()", s.removeLastRound(), 4 - i);
            due("calls left", s.callCount(), calls[i]);
            due("the call behind them", s.describeCall(calls[i]), GossipSchedule.NO_SUCH_CALL);
            due("the round behind them", s.knowledge(0, 5 - i), GossipSchedule.OUT_OF_RANGE);
        }
    }

    private static void roundsLeft() {
        GossipSchedule s = new GossipSchedule();
        Make.addRounds(s, Make.MOST_ROUNDS);
        for (int left = 15; left >= 0; left--) {
            due("removeLastRound()", s.removeLastRound(), left);
            due("roundCount()", s.roundCount(), left);
        }
    }

    private static void noRoundToRemove() {
        GossipSchedule s = new GossipSchedule();
        CHECK.refused("a new object", s, () -> s.removeLastRound(), GossipSchedule.NO_ROUND);
        Make.addSameCalls(s, 1);
        due("one round", s.removeLastRound(), 0);
        CHECK.refused("no round is left", s, () -> s.removeLastRound(), GossipSchedule.NO_ROUND);
        due("a round can be added again", s.addRound(), 1);
    }
}
