import java.util.ArrayList;
import java.util.List;

/** Counts which answers are as due, and prints those that are not. */
final class Checks {
    /** One call of a bench that answers a number. */
    interface Ask {
        long of(MarbleBench bench);
    }

    /** What is done with a fresh bench ahead of the call that is tested. */
    interface Setup {
        void on(MarbleBench bench);
    }

    static final Class<?> PLACE = IndexOutOfBoundsException.class;
    static final Class<?> ARGUMENT = IllegalArgumentException.class;
    static final Class<?> STATE = IllegalStateException.class;

    private int passed;
    private int failed;

    static long bit(boolean isTrue) {
        return isTrue ? 1 : 0;
    }

    static MarbleBench made(Setup setup) {
        MarbleBench bench = new MarbleBench();
        setup.on(bench);
        return bench;
    }

    void due(String what, long due, long got) {
        verdict(due == got, what + " answered " + got + ", due is " + due);
    }

    void isTrue(String what, boolean isSo) {
        verdict(isSo, what + " is not so");
    }

    /** The call throws exactly this exception (none below it), and no view of the bench tells of the call. */
    void refuses(String what, Class<?> due, Setup setup, Ask call) {
        String got = thrownBy(made(setup), call);
        verdict(got.equals(due.getName()), what + " threw " + got + ", due is " + due.getName());
        List<String> changed = new ArrayList<>();
        for (Views.View view : Views.ALL) {
            MarbleBench plain = made(setup);
            MarbleBench called = made(setup);
            thrownBy(called, call);
            if (!view.of(plain).equals(view.of(called))) {
                changed.add(view.of(made(setup)));
            }
        }
        verdict(changed.isEmpty(), what + " threw and changed " + changed);
    }

    private static String thrownBy(MarbleBench bench, Ask call) {
        try {
            call.of(bench);
            return "nothing";
        } catch (RuntimeException e) {
            return e.getClass().getName();
        }
    }

    private void verdict(boolean isGood, String complaint) {
        if (isGood) {
            passed++;
        } else {
            failed++;
            System.out.println(complaint);
        }
    }

    boolean report() {
        System.out.println(passed + " passed, " + failed + " failed");
        return failed == 0 && passed > 0;
    }
}
