import java.util.function.DoubleSupplier;

/** Counts what is as it should be and prints what is not. */
final class Checks {
    private final String title;
    private int passed;
    private int failed;

    Checks(String title) {
        this.title = title;
    }

    void is(String what, double got, double due) {
        note(got == due, what + " answered " + got + ", due is " + due);
    }

    void is(String what, long got, long due) {
        note(got == due, what + " answered " + got + ", due is " + due);
    }

    void isTrue(String what, boolean holds) {
        note(holds, what);
    }

    /** The call must throw just this exception and leave the registry as it was. */
    void refuses(ShadowLeases x, Class<? extends RuntimeException> due, String what, DoubleSupplier call) {
        long before = x.digest();
        String got = "nothing";
        try {
            call.getAsDouble();
        } catch (RuntimeException thrown) {
            got = thrown.getClass().getSimpleName();
            String thrower = thrown.getStackTrace()[0].getClassName();
            note(thrower.equals("ShadowLeases"), what + " is thrown by " + thrower);
        }
        note(got.equals(due.getSimpleName()), what + " threw " + got + ", due is " + due.getSimpleName());
        is(what + " leaves the digest", x.digest(), before);
    }

    void refusesIndex(ShadowLeases x, String what, DoubleSupplier call) {
        refuses(x, IndexOutOfBoundsException.class, what, call);
    }

    void refusesArgument(ShadowLeases x, String what, DoubleSupplier call) {
        refuses(x, IllegalArgumentException.class, what, call);
    }

    void refusesState(ShadowLeases x, String what, DoubleSupplier call) {
        refuses(x, IllegalStateException.class, what, call);
    }

    private void note(boolean holds, String complaint) {
        if (holds) {
            passed++;
        } else {
            failed++;
            if (failed <= 40) {
                System.out.println(title + ": " + complaint);
            }
        }
    }

    void finish() {
        System.out.println(title + ": " + passed + " passed, " + failed + " failed");
        if (failed != 0 || passed == 0) {
            System.exit(1);
        }
    }
}
