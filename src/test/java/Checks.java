import java.util.ArrayList;
import java.util.IdentityHashMap;
import java.util.List;
import java.util.Map;

/** Counts which answers are as due, and prints those that are not. */
final class Checks {
    /** One call of a bench that answers a number. */
    interface Ask {
        long of(MarbleBench bench);
    }

    /** One call of a bench with a number that is tried as one of its arguments. */
    interface AskWith {
        long of(MarbleBench bench, int number);
    }

    /** What is done with a fresh bench ahead of the call that is tested. */
    interface Setup {
        void on(MarbleBench bench);
    }

    static final Class<?> PLACE = IndexOutOfBoundsException.class;
    static final Class<?> ARGUMENT = IllegalArgumentException.class;
    static final Class<?> STATE = IllegalStateException.class;

    /** What all views tell of a bench that is only set up: many calls are tried on the same one. */
    private final Map<Setup, List<String>> seen = new IdentityHashMap<>();
    private String title = "";
    private int passed;
    private int failed;

    static long bit(boolean isTrue) {
        return isTrue ? 1 : 0;
    }

    static MarbleBench made(Setup setup) {
        MarbleBench bench = new MarbleBench();
        setup.on(bench);
        return bench;
    }

    /** All complaints bear this title from now on. */
    void begin(String newTitle) {
        title = newTitle;
    }

    void due(String what, long due, long got) {
        verdict(due == got, what + " answered " + got + ", due is " + due);
    }

    void isTrue(String what, boolean isSo) {
        verdict(isSo, what + " is not so");
    }

    void answers(String what, long due, Setup setup, Ask call) {
        String got = answerOf(made(setup), call);
        verdict(got.equals(String.valueOf(due)), what + " answered " + got + ", due is " + due);
    }

    /**
     * The call throws exactly this exception (none below it), by a statement of the class's own,
     * and no view of the bench tells of the call.
     */
    void refuses(String what, Class<?> due, Setup setup, Ask call) {
        String got = refusalOf(made(setup), call);
        verdict(got.equals(due.getName()), what + " answered " + got + ", due is " + due.getName());
        unchanged(what, setup, bench -> answerOf(bench, call));
    }

    /** No view of a bench tells that this has been done with it. */
    void unchanged(String what, Setup setup, Setup done) {
        List<String> plain = seen.computeIfAbsent(setup, Checks::lookAt);
        List<String> then = lookAt(bench -> {
            setup.on(bench);
            done.on(bench);
        });
        List<String> changed = new ArrayList<>();
        for (int i = 0; i < plain.size(); i++) {
            if (!plain.get(i).equals(then.get(i))) {
                changed.add(plain.get(i) + " became " + then.get(i));
            }
        }
        verdict(changed.isEmpty(), what + " changed " + changed);
    }

    /** Both benches look alike in all views. */
    void alike(String what, Setup one, Setup other) {
        verdict(lookAt(one).equals(lookAt(other)), what + ": the benches differ");
    }

    private static List<String> lookAt(Setup setup) {
        List<String> told = new ArrayList<>();
        for (Views.View view : Views.ALL) {
            told.add(view.of(made(setup)));
        }
        return told;
    }

    static String answerOf(MarbleBench bench, Ask call) {
        try {
            return String.valueOf(call.of(bench));
        } catch (RuntimeException e) {
            return e.getClass().getName();
        }
    }

    private static String refusalOf(MarbleBench bench, Ask call) {
        try {
            return String.valueOf(call.of(bench));
        } catch (RuntimeException e) {
            StackTraceElement[] trace = e.getStackTrace();
            boolean isOwn = trace.length > 0 && trace[0].getClassName().startsWith("MarbleBench");
            return e.getClass().getName() + (isOwn ? "" : ", thrown by the library");
        }
    }

    private void verdict(boolean isGood, String complaint) {
        if (isGood) {
            passed++;
        } else {
            failed++;
            System.out.println(title.isEmpty() ? complaint : title + ": " + complaint);
        }
    }

    boolean report() {
        System.out.println(passed + " passed, " + failed + " failed");
        return failed == 0 && passed > 0;
    }
}
