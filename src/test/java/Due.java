import java.util.Arrays;

/** Compares answers with those that are due, prints each that differs, and ends the test. */
final class Due {
    private int asked;
    private int wrong;

    void same(String call, long got, long want) {
        asked++;
        if (got != want) {
            tell(call + " answered " + got + ", due is " + want);
        }
    }

    void same(String call, boolean got, boolean want) {
        same(call, got ? 1 : 0, want ? 1 : 0);
    }

    void same(String call, String got, String want) {
        asked++;
        if (!got.equals(want)) {
            tell(call + " answered " + got + ", due is " + want);
        }
    }

    void same(String call, int[] got, int[] want) {
        asked++;
        if (!Arrays.equals(got, want)) {
            tell(call + " answered " + Arrays.toString(got) + ", due is " + Arrays.toString(want));
        }
    }

    /** The simple name of what the call throws, "nothing" if it doesn't. */
    void thrown(String call, Runnable run, Class<?> want) {
        asked++;
        Class<?> got = null;
        try {
            run.run();
        } catch (RuntimeException e) {
            got = e.getClass();
        }
        if (got != want) {
            tell(call + " threw " + name(got) + ", due is " + name(want));
        }
    }

    void end() {
        System.out.println(asked + " answers asked, " + wrong + " not as due");
        if (wrong != 0 || asked == 0) {
            System.exit(1);
        }
    }

    private void tell(String text) {
        wrong++;
        if (wrong <= 50) {
            System.out.println(text.length() > 600 ? text.substring(0, 600) + " .." : text);
        }
    }

    private static String name(Class<?> type) {
        return type == null ? "nothing" : type.getSimpleName();
    }
}
