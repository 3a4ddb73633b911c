/** Counts and prints answers that are not as due. */
final class Check {
    private static final int PRINTED_AT_MOST = 50;

    private String sentence = "";
    private int sentences = 0;
    private int wrong = 0;
    private int printed = 0;

    /** What follows tests this sentence of the document; its wrong answers are printed under it. */
    void sentence(String text) {
        sentence = "[" + text + "] ";
        sentences++;
        printed = 0;
    }

    void same(String call, long got, long due) {
        if (got != due) {
            tell(call + " answered " + got + ", due is " + due);
        }
    }

    void same(String call, boolean got, boolean due) {
        if (got != due) {
            tell(call + " answered " + got + ", due is " + due);
        }
    }

    void same(String call, Object got, Object due) {
        if (!due.equals(got)) {
            tell(call + " answered " + got + ", due is " + due);
        }
    }

    void refuses(String call, Runnable run) {
        same(call, thrownBy(run), "java.lang.IllegalArgumentException");
    }

    void end() {
        if (sentences != 0) {
            System.out.println(sentences + " sentences of the document tested");
        }
        System.out.println(wrong == 0 ? "all answers are as due" : wrong + " answers are not as due");
        if (wrong != 0) {
            System.exit(1);
        }
    }

    private static String thrownBy(Runnable run) {
        try {
            run.run();
            return "nothing thrown";
        } catch (RuntimeException e) {
            return e.getClass().getName();
        }
    }

    private void tell(String text) {
        wrong++;
        // Counted anew for each sentence, so that none that is broken goes unnamed.
        if (printed < PRINTED_AT_MOST) {
            printed++;
            System.out.println(sentence + text);
        }
    }
}
