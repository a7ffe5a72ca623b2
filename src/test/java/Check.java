/** Counts and prints the answers that are not the ones that are due. */
final class Check {
    private int wrong = 0;
    private int asked = 0;

    void due(String call, Object got, Object want) {
        asked++;
        if (!got.equals(want)) {
            wrong++;
            System.out.println(call + " answered " + got + ", due is " + want);
        }
    }

    /** The call has to throw just this exception and to leave the object as it was. */
    void refuses(CatEvenings cat, Class<? extends RuntimeException> want, String call, Runnable run) {
        long before = cat.digest();
        due(call, thrownBy(run), want.getSimpleName());
        due("digest() after the refused " + call, cat.digest(), before);
    }

    void illegal(CatEvenings cat, String call, Runnable run) {
        refuses(cat, IllegalArgumentException.class, call, run);
    }

    void state(CatEvenings cat, String call, Runnable run) {
        refuses(cat, IllegalStateException.class, call, run);
    }

    void missing(CatEvenings cat, String call, Runnable run) {
        refuses(cat, IndexOutOfBoundsException.class, call, run);
    }

    void end() {
        System.out.println(asked + " answers asked, " + wrong + " wrong");
        if (wrong != 0) {
            System.exit(1);
        }
    }

    private static String thrownBy(Runnable run) {
        try {
            run.run();
        } catch (RuntimeException e) {
            return nameOf(e);
        }
        return "nothing thrown";
    }

    /** What the machine or the library throws is a fault, even where its kind is the one that is due. */
    static String nameOf(RuntimeException e) {
        StackTraceElement[] trace = e.getStackTrace();
        String from = trace.length == 0 ? "" : trace[0].getClassName();
        boolean own = from.startsWith("CatEvenings") || from.startsWith("Model");
        return e.getClass().getSimpleName() + (own ? "" : " of " + from);
    }
}
