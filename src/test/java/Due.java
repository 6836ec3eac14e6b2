import java.util.ArrayList;
import java.util.List;

/** Counts the answers that are not the due ones, and prints each. */
final class Due {
    interface Setup { ScripHollow make(); }

    interface Call { void on(ScripHollow x); }

    static final Class<? extends RuntimeException> INDEX = IndexOutOfBoundsException.class;
    static final Class<? extends RuntimeException> ARGUMENT = IllegalArgumentException.class;
    static final Class<? extends RuntimeException> STATE = IllegalStateException.class;

    private int wrong;
    private String promise = "";

    void promise(int number, String name) {
        promise = "promise " + number + ", " + name;
    }

    void is(String what, long got, long want) {
        if (got != want) {
            wrong++;
            System.out.println(promise + ": " + what + " answered " + got + ", due is " + want);
        }
    }

    void is(String what, boolean got, boolean want) {
        is(what, got ? 1 : 0, want ? 1 : 0);
    }

    /** The call throws just this, by its own code, on a town made by the setup, and changes nothing of it. */
    void refused(String what, Class<? extends RuntimeException> want, Setup setup, Call call) {
        ScripHollow called = setup.make();
        String got = "nothing";
        try {
            call.on(called);
        } catch (RuntimeException e) {
            got = e.getClass().getName() + (isOwn(e) ? "" : " of the machine or the library");
        }
        if (!got.equals(want.getName())) {
            wrong++;
            System.out.println(promise + ": " + what + " threw " + got + ", due is " + want.getName());
        }
        List<Long> after = stateOf(called);
        List<Long> untouched = stateOf(setup.make());
        if (!after.equals(untouched)) {
            wrong++;
            System.out.println(promise + ": " + what + " changed something: " + after + " was " + untouched);
        }
    }

    void end() {
        System.out.println(wrong == 0 ? "all answers are as due" : wrong + " answers are not as due");
        if (wrong != 0) {
            System.exit(1);
        }
    }

    /** All that can be asked of a town, then what only a change answers: the town is used up by this. */
    static List<Long> stateOf(ScripHollow x) {
        List<Long> state = new ArrayList<>();
        int miners = countMiners(x);
        state.add((long) miners);
        for (int m = 0; m < miners; m++) {
            addMiner(state, x, m);
        }
        for (int line = 0; line < 6; line++) {
            state.add((long) x.books(line));
        }
        state.add((long) x.breaches());
        addSettings(state, x);
        for (int m = 0; m < miners; m++) {
            state.add(x.vote(m, false) ? 1L : 0L);
        }
        state.add((long) x.give(1));
        state.add(answer(() -> x.soup()));
        state.add(answer(() -> x.strike() ? 1 : 0));
        state.add((long) countPaydays(x));
        state.add(answer(() -> x.close(0)));
        return state;
    }

    interface Answer { long get(); }

    /** What a call answers, or a number below all answers for what it throws by its own code. */
    static long answer(Answer call) {
        try {
            return call.get();
        } catch (IndexOutOfBoundsException | IllegalArgumentException | IllegalStateException e) {
            if (!isOwn(e)) {
                throw e;
            }
            return e.getClass() == INDEX ? Long.MIN_VALUE : e.getClass() == ARGUMENT ? Long.MIN_VALUE + 1
                    : Long.MIN_VALUE + 2;
        }
    }

    /** Whether the class threw it, rather than the machine or the library below it. */
    private static boolean isOwn(RuntimeException e) {
        StackTraceElement[] stack = e.getStackTrace();
        return stack.length > 0 && stack[0].getClassName().equals("ScripHollow");
    }

    private static int countMiners(ScripHollow x) {
        int count = 0;
        while (count < 12 && isMiner(x, count)) {
            count++;
        }
        return count;
    }

    private static boolean isMiner(ScripHollow x, int number) {
        return answer(() -> x.about(number, 0)) >= 0;
    }

    private static int countPaydays(ScripHollow x) {
        int left = 0;
        while (left < 41 && answer(() -> x.payday()) >= 0) {
            left++;
        }
        return left;
    }

    private static void addMiner(List<Long> state, ScripHollow x, int m) {
        for (int what = 0; what < 10; what++) {
            state.add((long) x.about(m, what));
        }
        for (int goods = 0; goods < 4; goods++) {
            state.add((long) x.has(m, goods));
            state.add((long) x.raised(m, goods));
            state.add((long) x.whyNot(m, goods, 50));
        }
        for (int issue = 0; issue < 40; issue++) {
            state.add((long) x.scrip(m, issue));
        }
        state.add((long) x.scripAnew(m));
        state.add((long) x.baskets(m));
    }

    private static void addSettings(List<Long> state, ScripHollow x) {
        state.add((long) x.dock(0));
        state.add(x.check(false) ? 1L : 0L);
        state.add((long) x.edition(0));
        for (int what = 0; what < 5; what++) {
            state.add((long) x.tell(what, 1));
        }
        for (int goods = 0; goods < 4; goods++) {
            state.add((long) x.price(goods, 1, false));
            state.add((long) x.price(goods, 1, true));
        }
        state.add((long) x.limit(0));
        state.add((long) x.discount(0));
        for (int law = 0; law < 3; law++) {
            state.add(x.law(law, false) ? 1L : 0L);
        }
        state.add(x.obey(false) ? 1L : 0L);
    }
}
