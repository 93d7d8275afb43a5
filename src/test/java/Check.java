/** Counts the parts of a test: each is a promise's name and the calls that are due. */
final class Check {
    private String part = "";
    private int wrongHere = 0;
    private int callsHere = 0;
    private boolean failed = false;

    /** Begins a part, and closes the one ahead of it. */
    void part(String name) {
        close();
        part = name;
    }

    void due(String call, long got, long want) {
        callsHere++;
        if (got != want) {
            wrongHere++;
            System.out.println("  " + part + ": " + call + " answered " + got + ", due is " + want);
        }
    }

    void due(String what, boolean is) {
        due(what, is ? 1 : 0, 1);
    }

    private void close() {
        if (wrongHere > 0) {
            failed = true;
            System.out.println("FAILED " + part);
        } else if (callsHere > 0) {
            System.out.println("ok " + part + " (" + callsHere + " calls)");
        }
        wrongHere = 0;
        callsHere = 0;
    }

    void end() {
        close();
        if (failed) System.exit(1);
    }
}
