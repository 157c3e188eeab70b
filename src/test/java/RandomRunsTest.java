import java.util.Random;

/** Long runs of random calls, the same each time, on GossipSchedule and PlainSchedule at once. */
public final class RandomRunsTest {
    private static final int RUNS = 400;
    /** A text takes up to 66 calls more and the digest one: an object has 512 calls in all. */
    private static final int CALLS = 440;
    private static final int[] STRANGE = {
        -1, -2, 9, 16, 17, 28, 29, 31, 32, 63, 64, 101, 127, 255, 256, 1000,
        Integer.MIN_VALUE, Integer.MIN_VALUE + 1, Integer.MAX_VALUE, Integer.MAX_VALUE - 1,
    };

    private final Check check;
    private final Random random;
    private final int run;
    private final GossipSchedule schedule = new GossipSchedule();
    private final PlainSchedule plain = new PlainSchedule();
    private final StringBuilder told = new StringBuilder();
    private int calls = 0;

    private RandomRunsTest(Check check, int run) {
        this.check = check;
        this.run = run;
        random = new Random(7919L * run + 1);
    }

    public static void main(String[] args) {
        Check check = new Check();
        for (int run = 0; run < RUNS && check.wrong() == 0; run++) {
            RandomRunsTest test = new RandomRunsTest(check, run);
            while (test.calls < CALLS && check.wrong() == 0) {
                test.step();
            }
            test.due("digest()", test.schedule.digest(), test.plain.digest());
        }
        check.end();
    }

    private void due(String call, long got, long want) {
        calls++;
        told.append(call).append(" = ").append(want).append("; ");
        check.due("run " + run + ": " + call, got, want);
        if (got != want) {
            System.out.println("all calls of the run: " + told);
        }
    }

    /** A number from 0 to bound - 1, now and then a strange one. */
    private int pick(int bound) {
        return random.nextInt(25) == 0 ? STRANGE[random.nextInt(STRANGE.length)] : random.nextInt(bound);
    }

    private void step() {
        int choice = random.nextInt(100);
        if (choice < 30) {
            build(choice);
        } else if (choice < 50) {
            addCall();
        } else if (choice < 58) {
            writeText();
        } else {
            ask(choice);
        }
    }

    private void build(int choice) {
        if (choice < 2) {
            int persons = random.nextInt(10) == 0 ? pick(11) : 2 + random.nextInt(7);
            int mode = pick(4);
            due("newSchedule(" + persons + ", " + mode + ")",
                    schedule.newSchedule(persons, mode), plain.newSchedule(persons, mode));
        } else if (choice < 5) {
            int kind = pick(6);
            due("setGraph(" + kind + ")", schedule.setGraph(kind), plain.setGraph(kind));
        } else if (choice < 18) {
            due("addRound()", schedule.addRound(), plain.addRound());
        } else if (choice < 22) {
            due("removeLastRound()", schedule.removeLastRound(), plain.removeLastRound());
        } else if (choice == 22) {
            due("buildDoubling()", schedule.buildDoubling(), plain.buildDoubling());
        } else if (choice == 23) {
            due("buildFourCore()", schedule.buildFourCore(), plain.buildFourCore());
        } else if (choice == 24) {
            due("buildGatherSpread()", schedule.buildGatherSpread(), plain.buildGatherSpread());
        } else if (choice == 25) {
            due("clearInput()", schedule.clearInput(), plain.clearInput());
        } else if (choice == 26) {
            int code = pick(130);
            append(code);
        } else if (choice < 29) {
            due("firstError()", schedule.firstError(), plain.firstError());
        } else {
            due("load()", schedule.load(), plain.load());
        }
    }

    private void addCall() {
        int caller = pick(plain.personCount() + (random.nextInt(10) == 0 ? 1 : 0));
        int callee = pick(plain.personCount());
        boolean oneWay = random.nextBoolean();
        due("addCall(" + caller + ", " + callee + ", " + oneWay + ")",
                schedule.addCall(caller, callee, oneWay), plain.addCall(caller, callee, oneWay));
    }

    private void append(int code) {
        due("append(" + code + ")", schedule.append(code), plain.append(code));
    }

    /** A text that is mostly right, because a text of random characters is never loaded. */
    private void writeText() {
        if (random.nextInt(4) != 0) {
            due("clearInput()", schedule.clearInput(), plain.clearInput());
        }
        int length = random.nextInt(20) == 0 ? 16 : 1 + random.nextInt(8);
        String kinds = random.nextBoolean() ? "->" : random.nextBoolean() ? "--" : ">>";
        for (int call = 0; call < length; call++) {
            int caller = random.nextInt(plain.personCount());
            int callee = random.nextInt(plain.personCount());
            if (caller == callee && random.nextInt(15) != 0) {
                callee = (caller + 1) % plain.personCount();
            }
            if (call > 0) {
                append(random.nextInt(4) == 0 ? ',' : ';');
            }
            append('0' + caller);
            append(random.nextInt(60) == 0 ? '=' : kinds.charAt(random.nextInt(2)));
            append('0' + callee);
        }
        due("firstError()", schedule.firstError(), plain.firstError());
        due("load()", schedule.load(), plain.load());
    }

    private void ask(int choice) {
        int number = pick(30);
        int person = pick(9);
        int rounds = random.nextInt(3) == 0 ? pick(18) : random.nextInt(plain.roundCount() + 1);
        if (choice < 61) {
            due("areNeighbors(" + person + ", " + number % 9 + ")",
                    schedule.areNeighbors(person, number % 9), plain.areNeighbors(person, number % 9));
        } else if (choice < 63) {
            due("personCount()", schedule.personCount(), plain.personCount());
        } else if (choice < 65) {
            due("roundCount()", schedule.roundCount(), plain.roundCount());
        } else if (choice < 67) {
            due("callCount()", schedule.callCount(), plain.callCount());
        } else if (choice < 70) {
            due("describeCall(" + number + ")", schedule.describeCall(number), plain.describeCall(number));
        } else if (choice < 77) {
            due("knowledge(" + person + ", " + rounds + ")",
                    schedule.knowledge(person, rounds), plain.knowledge(person, rounds));
        } else if (choice < 81) {
            due("completeAfter()", schedule.completeAfter(), plain.completeAfter());
        } else if (choice < 85) {
            due("redundantCalls()", schedule.redundantCalls(), plain.redundantCalls());
        } else if (choice < 89) {
            due("averageKnowledge(" + rounds + ")",
                    schedule.averageKnowledge(rounds), plain.averageKnowledge(rounds));
        } else if (choice < 91) {
            boolean oneWay = random.nextBoolean();
            due("leastCalls(" + oneWay + ")", schedule.leastCalls(oneWay), plain.leastCalls(oneWay));
        } else if (choice < 96) {
            due("isCritical(" + number + ")", schedule.isCritical(number), plain.isCritical(number));
        } else if (choice == 96) {
            due("smallestSufficientCalls()",
                    schedule.smallestSufficientCalls(), plain.smallestSufficientCalls());
        } else if (choice < 99) {
            int percent = pick(103);
            due("successProbability(" + percent + ")",
                    schedule.successProbability(percent), plain.successProbability(percent));
        } else {
            due("digest()", schedule.digest(), plain.digest());
        }
    }
}
