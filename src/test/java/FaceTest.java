import java.lang.reflect.Constructor;
import java.lang.reflect.Field;
import java.lang.reflect.Method;
import java.lang.reflect.Modifier;
import java.util.Set;
import java.util.TreeSet;

/** The class has just the face of the document: no member is missing, none is visible beside it. */
public final class FaceTest {
    private static final String[] METHODS = {
        "int newSchedule(int,int)", "int setGraph(int)", "int areNeighbors(int,int)",
        "int addRound()", "int addCall(int,int,boolean)", "int removeLastRound()",
        "int append(int)", "int clearInput()", "int firstError()", "int load()",
        "int buildDoubling()", "int buildFourCore()", "int buildGatherSpread()",
        "int personCount()", "int roundCount()", "int callCount()", "int describeCall(int)",
        "int knowledge(int,int)", "int completeAfter()", "int redundantCalls()",
        "int averageKnowledge(int)", "int leastCalls(boolean)", "int isCritical(int)",
        "int smallestSufficientCalls()", "long successProbability(int)", "long digest()",
    };
    private static final String[] CONSTANTS = {
        "COMPLETE=0", "RING=1", "LINE=2", "STAR=3", "CUBE=4",
        "MIXED=0", "TWO_WAY_ONLY=1", "ONE_WAY_ONLY=2", "NEVER=-1",
        "BAD_CHARACTER=-2", "BUFFER_FULL=-3", "INVALID_INPUT=-4", "OUT_OF_RANGE=-5",
        "NO_SUCH_PERSON=-6", "NO_SUCH_CALL=-7", "NO_ROUND=-8", "PERSON_BUSY=-9",
        "NOT_NEIGHBORS=-10", "WRONG_KIND=-11", "TOO_MANY_ROUNDS=-12", "TOO_MANY_CALLS=-13",
        "WRONG_PERSON_COUNT=-14", "TOO_LARGE=-15",
    };

    public static void main(String[] args) throws IllegalAccessException {
        Check check = new Check();
        compare(check, "methods", Set.of(METHODS), visibleMethods());
        compare(check, "constants", Set.of(CONSTANTS), visibleConstants());
        check.due("private methods named as public ones", sharedNames(), 0);

        Constructor<?>[] constructors = GossipSchedule.class.getDeclaredConstructors();
        check.due("constructors", constructors.length, 1);
        check.due("the constructor's parameters", constructors[0].getParameterCount(), 0);
        check.due("public constructor", constructors[0].getModifiers(), Modifier.PUBLIC);
        check.due("public final class", GossipSchedule.class.getModifiers(),
                Modifier.PUBLIC | Modifier.FINAL);
        check.end();
    }

    private static void compare(Check check, String what, Set<String> want, Set<String> got) {
        for (String name : want) {
            check.due(what + ": " + name, got.contains(name) ? 1 : 0, 1);
        }
        for (String name : got) {
            check.due(what + ", beside the document: " + name, want.contains(name) ? 0 : 1, 0);
        }
    }

    private static Set<String> visibleMethods() {
        Set<String> found = new TreeSet<>();
        for (Method method : GossipSchedule.class.getDeclaredMethods()) {
            if (!Modifier.isPrivate(method.getModifiers())) {
                String face = method.getReturnType() + " " + method.getName() + "(";
                String comma = "";
                for (Class<?> type : method.getParameterTypes()) {
                    face += comma + type;
                    comma = ",";
                }
                found.add((method.getModifiers() == Modifier.PUBLIC ? "" : "not just public: ")
                        + face + ")");
            }
        }
        return found;
    }

    private static Set<String> visibleConstants() throws IllegalAccessException {
        Set<String> found = new TreeSet<>();
        int constant = Modifier.PUBLIC | Modifier.STATIC | Modifier.FINAL;
        for (Field field : GossipSchedule.class.getDeclaredFields()) {
            if (field.getModifiers() == constant && field.getType() == int.class) {
                found.add(field.getName() + "=" + field.getInt(null));
            } else if (!Modifier.isPrivate(field.getModifiers())) {
                found.add("no int constant: " + field.getName());
            }
        }
        return found;
    }

    private static int sharedNames() {
        Set<String> publics = new TreeSet<>();
        int shared = 0;
        for (Method method : GossipSchedule.class.getMethods()) {
            publics.add(method.getName());
        }
        for (Method method : GossipSchedule.class.getDeclaredMethods()) {
            if (Modifier.isPrivate(method.getModifiers()) && publics.contains(method.getName())) {
                shared++;
            }
        }
        return shared;
    }
}
