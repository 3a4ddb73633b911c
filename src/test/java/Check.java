/** Counts and prints answers that are not as due. */
final class Check {
    private int wrong = 0;

    void same(String call, long got, long due) {
        if (got != due) {
            wrong++;
            if (wrong <= 50) {
                System.out.println(call + " answered " + got + ", due is " + due);
            }
        }
    }

    void same(String call, boolean got, boolean due) {
        same(call, got ? 1 : 0, due ? 1 : 0);
    }

    void same(String call, Object got, Object due) {
        if (!due.equals(got)) {
            wrong++;
            System.out.println(call + " answered " + got + ", due is " + due);
        }
    }

    void refuses(String call, Runnable run) {
        try {
            run.run();
            same(call, "nothing thrown", "IllegalArgumentException");
        } catch (RuntimeException e) {
            same(call, e.getClass().getSimpleName(), "IllegalArgumentException");
        }
    }

    void end() {
        System.out.println(wrong == 0 ? "all answers are as due" : wrong + " answers are not as due");
        if (wrong != 0) {
            System.exit(1);
        }
    }
}
