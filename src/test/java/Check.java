/** What a test says of an answer; an answer that is not due ends the test. */
final class Check {
    static final Class<? extends RuntimeException> INDEX = IndexOutOfBoundsException.class;
    static final Class<? extends RuntimeException> ARGUMENT = IllegalArgumentException.class;
    static final Class<? extends RuntimeException> STATE = IllegalStateException.class;

    private Check() {
    }

    static void due(long want, long got) {
        if (want != got) {
            throw new AssertionError("answered " + got + ", due is " + want);
        }
    }

    static void due(boolean want, boolean got) {
        if (want != got) {
            throw new AssertionError("answered " + got + ", due is " + want);
        }
    }

    /** Doubles are due to the last bit. */
    static void dueDouble(double want, double got) {
        if (want != got) {
            throw new AssertionError("answered " + got + ", due is " + want);
        }
    }

    /** Tells the first line that is not the one that is due. */
    static void dueText(String want, String got) {
        String[] wanted = want.split("\n");
        String[] told = got.split("\n");
        for (int i = 0; i < wanted.length && i < told.length; i++) {
            if (!wanted[i].equals(told[i])) {
                throw new AssertionError("told '" + told[i] + "', due is '" + wanted[i] + "'");
            }
        }
        due(wanted.length, told.length);
    }

    /** The very class counts: the machine's own exceptions are of classes below the due ones. */
    static void dueThrow(Class<? extends RuntimeException> want, Runnable call) {
        RuntimeException thrown = null;
        try {
            call.run();
        } catch (RuntimeException e) {
            thrown = e;
        }
        if (thrown == null) {
            throw new AssertionError("threw nothing, due is " + want.getSimpleName());
        }
        if (thrown.getClass() != want) {
            throw new AssertionError("threw " + thrown + ", due is " + want.getSimpleName());
        }
    }

    /** As dueThrow, and nothing that the digest tells of has changed. */
    static void dueThrow(Class<? extends RuntimeException> want, FeatureAnalyzer x, Runnable call) {
        long before = x.digest();
        dueThrow(want, call);
        due(before, x.digest());
    }
}
