/** What all tests share: they count wrong answers, print them, and end with 1 if there was one. */
final class Check {
    static final int NOTHING = 0, INDEX = 1, ARGUMENT = 2, STATE = 3;

    private static int wrong;

    private Check() {
    }

    interface Call {
        long answer();
    }

    static void due(String what, long want, long got) {
        if (want != got) {
            wrong++;
            System.out.println(what + " answered " + got + ", due is " + want);
        }
    }

    static void due(String what, boolean want, boolean got) {
        due(what, want ? 1 : 0, got ? 1 : 0);
    }

    /** The call throws exactly the document's exception, not one of the classes below it. */
    static void dueThrow(String what, int want, Call call) {
        int got = NOTHING;
        try {
            call.answer();
        } catch (RuntimeException e) {
            Class<?> kind = e.getClass();
            got = kind == IndexOutOfBoundsException.class ? INDEX
                    : kind == IllegalArgumentException.class ? ARGUMENT
                    : kind == IllegalStateException.class ? STATE : -1;
        }
        due(what + " (thrown: 1 IndexOutOfBounds, 2 IllegalArgument, 3 IllegalState, -1 other)", want, got);
    }

    static void end() {
        if (wrong != 0) {
            System.out.println(wrong + " answers are not as due");
            System.exit(1);
        }
    }
}
