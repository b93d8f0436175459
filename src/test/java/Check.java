/** What the tests share: counting wrong answers, and writing into the buffer. */
final class Check {
    private static int wrong = 0;
    private static String test = "";

    /** A call that may throw. */
    interface Call {
        void run();
    }

    private Check() {
    }

    static void due(String call, long want, long got) {
        if (got != want) {
            fail(call + " answered " + got + ", due is " + want);
        }
    }

    static void dueDouble(String call, double want, double got) {
        if (Double.doubleToLongBits(got) != Double.doubleToLongBits(want)) {
            fail(call + " answered " + got + ", due is " + want);
        }
    }

    static void fail(String text) {
        wrong++;
        System.out.println(test.isEmpty() ? text : test + ": " + text);
    }

    /** Names the test that runs from now on. */
    static void inTest(String name) {
        test = name;
    }

    static String thrownBy(Call call) {
        try {
            call.run();
        } catch (RuntimeException e) {
            return e.getClass().getSimpleName();
        }
        return "nothing";
    }

    /** The call must throw just this exception. */
    static void thrown(String name, Class<? extends RuntimeException> kind, Call call) {
        String thrown = thrownBy(call);
        if (!thrown.equals(kind.getSimpleName())) {
            fail(name + " threw " + thrown + ", due is " + kind.getSimpleName());
        }
    }

    /** The call must throw just this exception, and change nothing that the digest tells. */
    static void refused(String name, Class<? extends RuntimeException> kind, PinCylinder x, Call call) {
        long before = x.digest();
        thrown(name, kind, call);
        due("digest behind the refused " + name, before, x.digest());
    }

    static void noIndex(String name, PinCylinder x, Call call) {
        refused(name, IndexOutOfBoundsException.class, x, call);
    }

    static void noArgument(String name, PinCylinder x, Call call) {
        refused(name, IllegalArgumentException.class, x, call);
    }

    static void noState(String name, PinCylinder x, Call call) {
        refused(name, IllegalStateException.class, x, call);
    }

    static void write(PinCylinder x, String text) {
        for (int i = 0; i < text.length(); i++) {
            x.append(text.charAt(i));
        }
    }

    static int set(PinCylinder x, String text) {
        x.clearBuffer();
        write(x, text);
        return x.pins();
    }

    static void end() {
        if (wrong != 0) {
            System.out.println(wrong + " answers are not as due");
            System.exit(1);
        }
    }
}
