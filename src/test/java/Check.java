import java.util.function.IntSupplier;

/** Counts the answers that are not as due, and prints them. */
final class Check {
    private int looked = 0;
    private int wrong = 0;
    private String heading = "";

    void due(String call, long got, long want) {
        looked++;
        if (got != want) {
            fail(call + " answered " + got + ", due is " + want);
        }
    }

    /** The test of one sentence of the document; a test that looks at nothing is a failure. */
    void sentence(String words, Runnable test) {
        heading = "[" + words + "] ";
        int before = looked;
        try {
            test.run();
        } catch (RuntimeException thrown) {
            fail("threw " + thrown);
        }
        if (looked == before) {
            fail("nothing was looked at");
        }
        heading = "";
    }

    /** A refused call answers with its error and changes nothing that the digest shows. */
    void refused(String call, GossipSchedule s, IntSupplier made, int error) {
        long before = s.digest();
        due(call, made.getAsInt(), error);
        due("digest() after " + call, s.digest(), before);
    }

    private void fail(String what) {
        wrong++;
        System.out.println(heading + what);
    }

    int wrong() {
        return wrong;
    }

    void end() {
        System.out.println(looked + " answers looked at, " + wrong + " not as due");
        if (wrong != 0 || looked == 0) {
            System.exit(1);
        }
    }
}
