import java.util.List;
import java.util.function.Consumer;
import java.util.function.Supplier;

/** Counts and prints the answers that are not the ones that are due. */
final class Check {
    private int wrong = 0;
    private int asked = 0;

    void due(String call, Object got, Object want) {
        asked++;
        if (!got.equals(want)) {
            wrong++;
            System.out.println(call + " answered " + got + ", due is " + want);
        }
    }

    /** The call has to throw just this exception and to leave the object as it was, as its digest tells. */
    void refuses(CatEvenings cat, Class<? extends RuntimeException> want, String call, Runnable run) {
        long before = cat.digest();
        due(call, thrownBy(run), want.getSimpleName());
        due("digest() after the refused " + call, cat.digest(), before);
    }

    void illegal(CatEvenings cat, String call, Runnable run) {
        refuses(cat, IllegalArgumentException.class, call, run);
    }

    void state(CatEvenings cat, String call, Runnable run) {
        refuses(cat, IllegalStateException.class, call, run);
    }

    void missing(CatEvenings cat, String call, Runnable run) {
        refuses(cat, IndexOutOfBoundsException.class, call, run);
    }

    /** As refuses, but each answer and each next call behind it has to be as without it. */
    void refusedIn(Situation situation, Class<? extends RuntimeException> want, String call,
        Consumer<CatEvenings> run) {
        CatEvenings cat = situation.make();
        due(situation.name() + ": " + call, thrownBy(() -> run.accept(cat)), want.getSimpleName());
        changesNothing(situation, call, run);
    }

    /** The call may answer or throw; each answer and each next call behind it has to be as without it. */
    void changesNothing(Situation situation, String call, Consumer<CatEvenings> run) {
        List<String> without = Picture.of(situation);
        List<String> behind = Picture.of(situation.then(call, cat -> thrownBy(() -> run.accept(cat))));
        due(situation.name() + ", behind " + call, firstOther(behind, without), "nothing else");
    }

    void end() {
        System.out.println(asked + " answers asked, " + wrong + " wrong");
        if (wrong != 0) {
            System.exit(1);
        }
    }

    private static String firstOther(List<String> got, List<String> want) {
        for (int i = 0; i < got.size() && i < want.size(); i++) {
            if (!got.get(i).equals(want.get(i))) {
                return got.get(i) + " for " + want.get(i);
            }
        }
        return got.size() == want.size() ? "nothing else" : got.size() + " answers for " + want.size();
    }

    private static String thrownBy(Runnable run) {
        Object answer = answer(() -> {
            run.run();
            return "nothing thrown";
        });
        return answer.toString();
    }

    /** What the call answers, or the name of what it throws. */
    static Object answer(Supplier<Object> call) {
        try {
            return call.get();
        } catch (RuntimeException e) {
            return nameOf(e);
        }
    }

    /** What the machine or the library throws is a fault, even where its kind is the one that is due. */
    private static String nameOf(RuntimeException e) {
        StackTraceElement[] trace = e.getStackTrace();
        String from = trace.length == 0 ? "" : trace[0].getClassName();
        boolean own = from.startsWith("CatEvenings") || from.equals("Model");
        return e.getClass().getSimpleName() + (own ? "" : " of " + from);
    }
}
