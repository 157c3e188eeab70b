import java.util.ArrayList;
import java.util.List;

/**
 * The document's words told a second time, as plainly as the Java library allows and without a
 * thought for speed: the random runs compare GossipSchedule with it. It shares no way of holding
 * the state with GossipSchedule, so that one mistake is not made in both.
 */
final class PlainSchedule {
    private record Call(int caller, int callee, boolean oneWay) {
        boolean has(int person) {
            return caller == person || callee == person;
        }
    }

    private int persons = 2;
    private int mode = 0;
    private int graph = 0;
    private List<List<Call>> rounds = new ArrayList<>();
    private String buffer = "";

    int newSchedule(int persons, int mode) {
        if (persons < 2 || persons > 8 || mode < 0 || mode > 2) {
            return -5;
        }
        this.persons = persons;
        this.mode = mode;
        graph = 0;
        rounds = new ArrayList<>();
        return persons;
    }

    int setGraph(int kind) {
        if (kind < 0 || kind > 4) {
            return -5;
        }
        if (kind == 4 && persons != 2 && persons != 4 && persons != 8) {
            return -14;
        }
        int previous = graph;
        graph = kind;
        return previous;
    }

    private boolean[][] edges() {
        boolean[][] edge = new boolean[persons][persons];
        for (int a = 0; a < persons; a++) {
            for (int b = 0; b < persons; b++) {
                boolean joined = switch (graph) {
                    case 0 -> a != b;
                    case 1 -> a != b && ((a + 1) % persons == b || (b + 1) % persons == a);
                    case 2 -> a + 1 == b || b + 1 == a;
                    case 3 -> a != b && a * b == 0;
                    default -> a != b && Integer.highestOneBit(a ^ b) == (a ^ b);
                };
                edge[a][b] = joined;
            }
        }
        return edge;
    }

    private boolean missing(int person) {
        return person < 0 || person >= persons;
    }

    int areNeighbors(int a, int b) {
        if (missing(a) || missing(b)) {
            return -6;
        }
        return edges()[a][b] ? 1 : 0;
    }

    int addRound() {
        if (rounds.size() == 16) {
            return -12;
        }
        rounds.add(new ArrayList<>());
        return rounds.size();
    }

    private static boolean busy(List<Call> round, int caller, int callee) {
        return round.stream().anyMatch(c -> c.has(caller) || c.has(callee));
    }

    private boolean refused(boolean oneWay) {
        return mode == 1 && oneWay || mode == 2 && !oneWay;
    }

    int addCall(int caller, int callee, boolean oneWay) {
        if (missing(caller) || missing(callee)) {
            return -6;
        }
        if (!edges()[caller][callee]) {
            return -10;
        }
        if (rounds.isEmpty()) {
            return -8;
        }
        List<Call> last = rounds.get(rounds.size() - 1);
        if (busy(last, caller, callee)) {
            return -9;
        }
        if (refused(oneWay)) {
            return -11;
        }
        if (callCount() == 28) {
            return -13;
        }
        last.add(new Call(caller, callee, oneWay));
        return callCount() - 1;
    }

    int removeLastRound() {
        if (rounds.isEmpty()) {
            return -8;
        }
        rounds.remove(rounds.size() - 1);
        return rounds.size();
    }

    int append(int code) {
        if (code < 32 || code > 126) {
            return -2;
        }
        if (buffer.length() == 59) {
            return -3;
        }
        buffer += (char) code;
        return buffer.length();
    }

    int clearInput() {
        int length = buffer.length();
        buffer = "";
        return length;
    }

    int firstError() {
        String digits = "01234567".substring(0, persons);
        for (int i = 0; i < buffer.length(); i++) {
            String allowed = switch (i % 4) {
                case 0 -> digits;
                case 1 -> "->";
                case 2 -> digits.replace(buffer.substring(i - 2, i - 1), "");
                default -> ",;";
            };
            if (!allowed.contains(buffer.substring(i, i + 1))) {
                return i;
            }
        }
        return buffer.length();
    }

    int load() {
        if (firstError() != buffer.length() || buffer.length() % 4 != 3) {
            return -4;
        }
        List<List<Call>> read = new ArrayList<>();
        for (String part : buffer.split(";")) {
            List<Call> round = new ArrayList<>();
            for (String text : part.split(",")) {
                int caller = text.charAt(0) - '0';
                int callee = text.charAt(2) - '0';
                boolean oneWay = text.charAt(1) == '>';
                if (!edges()[caller][callee]) {
                    return -10;
                }
                if (busy(round, caller, callee)) {
                    return -9;
                }
                if (refused(oneWay)) {
                    return -11;
                }
                round.add(new Call(caller, callee, oneWay));
            }
            read.add(round);
        }
        rounds = read;
        buffer = "";
        return callCount();
    }

    private void roundOf(Call... calls) {
        rounds.add(new ArrayList<>(List.of(calls)));
    }

    int buildDoubling() {
        if (persons != 2 && persons != 4 && persons != 8) {
            return -14;
        }
        if (mode == 2) {
            return -11;
        }
        if (graph != 0 && graph != 4) {
            return -10;
        }
        rounds = new ArrayList<>();
        for (int k = 0; 1 << k < persons; k++) {
            roundOf();
            for (int p = 0; p < persons; p++) {
                if ((p >> k) % 2 == 0) {
                    rounds.get(k).add(new Call(p, p + (1 << k), false));
                }
            }
        }
        return callCount();
    }

    int buildFourCore() {
        if (persons < 4) {
            return -14;
        }
        if (mode == 2) {
            return -11;
        }
        if (graph != 0) {
            return -10;
        }
        rounds = new ArrayList<>();
        for (int i = 4; i < persons; i++) {
            roundOf(new Call(i, 0, false));
        }
        roundOf(new Call(0, 1, false), new Call(2, 3, false));
        roundOf(new Call(0, 2, false), new Call(1, 3, false));
        for (int i = 4; i < persons; i++) {
            roundOf(new Call(0, i, false));
        }
        return callCount();
    }

    int buildGatherSpread() {
        for (int i = 1; i < persons; i++) {
            if (!edges()[0][i]) {
                return -10;
            }
        }
        rounds = new ArrayList<>();
        for (int i = 1; i < persons; i++) {
            roundOf(new Call(i, 0, mode == 2));
        }
        for (int i = 1; i <= (mode == 2 ? persons - 1 : persons - 2); i++) {
            roundOf(new Call(0, i, mode == 2));
        }
        return callCount();
    }

    int personCount() {
        return persons;
    }

    int roundCount() {
        return rounds.size();
    }

    int callCount() {
        return rounds.stream().mapToInt(List::size).sum();
    }

    int describeCall(int call) {
        int number = 0;
        for (int r = 0; r < rounds.size(); r++) {
            for (Call c : rounds.get(r)) {
                if (number == call) {
                    return 1000 * r + (c.oneWay ? 100 : 0) + 10 * c.caller + c.callee;
                }
                number++;
            }
        }
        return -7;
    }

    /** Who knows what after so many rounds, with only the calls of the mask (bit c for call c). */
    private boolean[][] known(int roundsMade, long mask) {
        boolean[][] knows = new boolean[persons][persons];
        for (int p = 0; p < persons; p++) {
            knows[p][p] = true;
        }
        int number = 0;
        for (int r = 0; r < roundsMade; r++) {
            for (Call c : rounds.get(r)) {
                if ((mask >> number & 1L) != 0L) {
                    tell(knows, c);
                }
                number++;
            }
        }
        return knows;
    }

    /** Answers whether somebody learns something. */
    private static boolean tell(boolean[][] knows, Call c) {
        boolean learnt = false;
        for (int item = 0; item < knows.length; item++) {
            boolean either = knows[c.caller][item] || knows[c.callee][item];
            learnt |= either && !knows[c.callee][item];
            knows[c.callee][item] = either;
            if (!c.oneWay) {
                learnt |= either && !knows[c.caller][item];
                knows[c.caller][item] = either;
            }
        }
        return learnt;
    }

    private static int items(boolean[][] knows) {
        int total = 0;
        for (boolean[] row : knows) {
            for (boolean item : row) {
                total += item ? 1 : 0;
            }
        }
        return total;
    }

    private boolean suffices(long mask) {
        return items(known(rounds.size(), mask)) == persons * persons;
    }

    int knowledge(int person, int roundsMade) {
        if (missing(person)) {
            return -6;
        }
        if (roundsMade < 0 || roundsMade > rounds.size()) {
            return -5;
        }
        int mask = 0;
        for (int item = 0; item < persons; item++) {
            mask += known(roundsMade, -1L)[person][item] ? 1 << item : 0;
        }
        return mask;
    }

    int completeAfter() {
        for (int r = 0; r <= rounds.size(); r++) {
            if (items(known(r, -1L)) == persons * persons) {
                return r;
            }
        }
        return -1;
    }

    int redundantCalls() {
        boolean[][] knows = known(0, 0L);
        int redundant = 0;
        for (List<Call> round : rounds) {
            for (Call c : round) {
                redundant += tell(knows, c) ? 0 : 1;
            }
        }
        return redundant;
    }

    int averageKnowledge(int roundsMade) {
        if (roundsMade < 0 || roundsMade > rounds.size()) {
            return -5;
        }
        return Float.floatToIntBits((float) items(known(roundsMade, -1L)) / persons);
    }

    private boolean fourCycle() {
        boolean[][] edge = edges();
        for (int a = 0; a < persons; a++) {
            for (int c = 0; c < persons; c++) {
                int between = 0;
                for (int b = 0; b < persons; b++) {
                    between += edge[a][b] && edge[b][c] ? 1 : 0;
                }
                if (a != c && between >= 2) {
                    return true;
                }
            }
        }
        return false;
    }

    int leastCalls(boolean oneWay) {
        if (oneWay) {
            return 2 * persons - 2;
        }
        if (persons == 2) {
            return 1;
        }
        if (persons == 3) {
            return 3;
        }
        return fourCycle() ? 2 * persons - 4 : 2 * persons - 3;
    }

    int isCritical(int call) {
        if (call < 0 || call >= callCount()) {
            return -7;
        }
        return suffices(-1L) && !suffices(~(1L << call)) ? 1 : 0;
    }

    int smallestSufficientCalls() {
        int calls = callCount();
        if (calls > 12) {
            return -15;
        }
        for (int size = 0; size <= calls; size++) {
            for (int mask = 0; mask < 1 << calls; mask++) {
                if (Integer.bitCount(mask) == size && suffices(mask)) {
                    return mask;
                }
            }
        }
        return -1;
    }

    long successProbability(int percent) {
        if (percent < 0 || percent > 100) {
            return -5;
        }
        int calls = callCount();
        if (calls > 12) {
            return -15;
        }
        double p = percent / 100.0;
        double s = 0.0;
        for (int mask = 0; mask < 1 << calls; mask++) {
            if (suffices(mask)) {
                double product = 1.0;
                for (int c = 0; c < calls; c++) {
                    product *= (mask & 1 << c) != 0 ? p : 1.0 - p;
                }
                s += product;
            }
        }
        return Double.doubleToLongBits(s);
    }

    long digest() {
        List<Long> values = new ArrayList<>();
        values.addAll(List.of((long) persons, (long) mode, (long) graph, (long) rounds.size()));
        values.add((long) callCount());
        for (int c = 0; c < callCount(); c++) {
            values.add((long) describeCall(c));
            values.add((long) isCritical(c));
        }
        for (int r = 0; r <= rounds.size(); r++) {
            for (int p = 0; p < persons; p++) {
                values.add((long) knowledge(p, r));
            }
            values.add((long) averageKnowledge(r));
        }
        values.add((long) completeAfter());
        values.add((long) redundantCalls());
        values.add((long) leastCalls(false));
        values.add((long) leastCalls(true));
        values.add((long) smallestSufficientCalls());
        values.add(successProbability(50));
        values.add((long) buffer.length());
        buffer.chars().forEach(code -> values.add((long) code));
        long hash = 1759L;
        for (long value : values) {
            hash = 31L * hash + value;
        }
        return hash;
    }
}
