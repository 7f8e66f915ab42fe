/** Counts and prints the answers that are not as due. */
final class Check {
    private static int wrong = 0;

    private Check() {
    }

    static void is(String call, long got, long due) {
        if (got != due) {
            tell(call + " answered " + got + ", due is " + due);
        }
    }

    static void isChar(String call, char got, char due) {
        if (got != due) {
            tell(call + " answered '" + got + "', due is '" + due + "'");
        }
    }

    static void isTrue(String call, boolean got) {
        is(call, got ? 1 : 0, 1);
    }

    static void isFalse(String call, boolean got) {
        is(call, got ? 1 : 0, 0);
    }

    static void isReal(String call, double got, double due) {
        if (got != due) {
            tell(call + " answered " + got + ", due is " + due);
        }
    }

    static void isText(String call, String got, String due) {
        if (!got.equals(due)) {
            tell(call + " answered " + got + ", due is " + due);
        }
    }

    static void noCell(String call, Runnable run) {
        refuses(call, IndexOutOfBoundsException.class, run);
    }

    static void noValue(String call, Runnable run) {
        refuses(call, IllegalArgumentException.class, run);
    }

    static void noDeed(String call, Runnable run) {
        refuses(call, UnsupportedOperationException.class, run);
    }

    static void noTime(String call, Runnable run) {
        refuses(call, IllegalStateException.class, run);
    }

    static void noElement(String call, Runnable run) {
        refuses(call, java.util.NoSuchElementException.class, run);
    }

    static void refuses(String call, Class<? extends RuntimeException> due, Runnable run) {
        try {
            run.run();
        } catch (RuntimeException thrown) {
            if (thrown.getClass() != due) {
                tell(call + " threw " + thrown.getClass().getName() + ", due is " + due.getName());
            }
            return;
        }
        tell(call + " threw nothing, due is " + due.getName());
    }

    static void end() {
        System.out.println(wrong == 0 ? "all answers are as due" : wrong + " answers are not as due");
        if (wrong != 0) {
            System.exit(1);
        }
    }

    private static void tell(String text) {
        wrong++;
        System.out.println(text);
    }
}
