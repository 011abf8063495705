/** Counts answers that are not as due; a test ends with exit code 1 if there was one. */
final class Check {
    interface Call {
        void run();
    }

    interface Ask {
        int give();
    }

    private int wrong = 0;
    private int looked = 0;

    void due(String call, long want, long got) {
        looked++;
        if (want != got) {
            wrong++;
            System.out.println(call + " answered " + got + ", due is " + want);
        }
    }

    /** The call must throw just this class, not one below it. */
    void refuses(String call, Class<? extends RuntimeException> want, Call run) {
        looked++;
        String got = "nothing";
        try {
            run.run();
        } catch (RuntimeException e) {
            got = e.getClass().getSimpleName();
        }
        if (!got.equals(want.getSimpleName())) {
            wrong++;
            System.out.println(call + " threw " + got + ", due is " + want.getSimpleName());
        }
    }

    void index(String call, Call run) {
        refuses(call, IndexOutOfBoundsException.class, run);
    }

    void turn(String call, Call run) {
        refuses(call, IllegalStateException.class, run);
    }

    void range(String call, Call run) {
        refuses(call, IllegalArgumentException.class, run);
    }

    void meaning(String call, Call run) {
        refuses(call, UnsupportedOperationException.class, run);
    }

    /** The call must be taken; what it answers is looked at elsewhere. */
    void takes(String call, Call run) {
        looked++;
        try {
            run.run();
        } catch (RuntimeException e) {
            wrong++;
            System.out.println(call + " threw " + e.getClass().getSimpleName() + ", it is to be taken");
        }
    }

    void same(String what, String want, String got) {
        looked++;
        if (!want.equals(got)) {
            wrong++;
            System.out.println(what + " answered\n  " + got + "\ndue is\n  " + want);
        }
    }

    /** An answer as text, a thrown exception by its name. */
    static String answer(Ask ask) {
        try {
            return String.valueOf(ask.give());
        } catch (RuntimeException e) {
            return "throws." + e.getClass().getSimpleName();
        }
    }

    void isTrue(String what, boolean holds) {
        looked++;
        if (!holds) {
            wrong++;
            System.out.println("does not hold: " + what);
        }
    }

    boolean anyWrong() {
        return wrong > 0;
    }

    void end(String test) {
        System.out.println(test + ": " + looked + " looked at, " + wrong + " wrong");
        if (wrong > 0) {
            System.exit(1);
        }
    }
}
