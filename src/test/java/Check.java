/** Counts the answers that are not as due, and ends a test. */
final class Check {
    private int wrong;
    private String sentence = "";

    /** Names the promise, or the terms it leans on, and the sentence that the next answers are held to. */
    void sentence(String promise, String words) {
        sentence = promise + ", \"" + words + "\": ";
    }

    void due(String what, long got, long want) {
        if (got != want) {
            wrong++;
            System.out.println(sentence + what + " answered " + got + " (0" + Long.toOctalString(got)
                    + "), due is " + want + " (0" + Long.toOctalString(want) + ")");
        }
    }

    void due(String what, boolean got, boolean want) {
        due(what, got ? 1 : 0, want ? 1 : 0);
    }

    /** The call has to throw an IllegalArgumentException. */
    void refused(String what, Runnable call) {
        try {
            call.run();
        } catch (IllegalArgumentException e) {
            return;
        }
        wrong++;
        System.out.println(sentence + what + " was not refused");
    }

    void end() {
        if (wrong != 0) {
            System.out.println(wrong + " answers are not as due");
            System.exit(1);
        }
    }
}
