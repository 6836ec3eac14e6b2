import java.util.ArrayList;
import java.util.HashSet;
import java.util.List;
import java.util.Set;

/** Counts the answers that are not the due ones, and prints each, by the promise and the case. */
final class Due {
    interface Setup { ScripHollow make(); }

    interface Call { void on(ScripHollow x); }

    interface Ask { long of(ScripHollow x); }

    interface Body { void run(); }

    interface Answer { long get(); }

    static final Class<? extends RuntimeException> INDEX = IndexOutOfBoundsException.class;
    static final Class<? extends RuntimeException> ARGUMENT = IllegalArgumentException.class;
    static final Class<? extends RuntimeException> STATE = IllegalStateException.class;

    /** What answer() tells of a call that throws, below all that a call answers. */
    static final long THREW_INDEX = Long.MIN_VALUE, THREW_ARGUMENT = THREW_INDEX + 1, THREW_STATE = THREW_INDEX + 2;

    private final Set<String> names = new HashSet<>();
    private int wrong;
    private String promise = "";
    private String theCase = "";

    void promise(int number, String name) {
        promise = "promise " + number + ", " + name + ": ";
        theCase = "";
    }

    /** A case of the promise that has a name of its own: what it throws unasked is wrong, too. */
    void test(String name, Body body) {
        if (!names.add(promise + name)) {
            tell("there are two cases of the name " + name);
        }
        theCase = name + ": ";
        try {
            body.run();
        } catch (RuntimeException e) {
            tell("threw " + e);
        }
        theCase = "";
    }

    /** A case with one answer: what is asked of a town made by the setup is this. */
    void gives(String name, long want, Setup setup, Ask ask) {
        test(name, () -> is("it", ask.of(setup.make()), want));
    }

    /** A case that is refused: the call throws just this, by its own code, and changes nothing of the town. */
    void refused(String name, Class<? extends RuntimeException> want, Setup setup, Call call) {
        test(name, () -> {
            String got = thrownBy(setup.make(), call);
            if (!got.equals(want.getName())) {
                tell("threw " + got + ", due is " + want.getName());
            }
            hasChangedNothing(setup, call);
        });
    }

    /** A case of a question, which changes nothing of the town. */
    void changesNothing(String name, Setup setup, Call call) {
        test(name, () -> hasChangedNothing(setup, call));
    }

    private void hasChangedNothing(Setup setup, Call call) {
        List<Long> after = stateOf(() -> called(setup.make(), call));
        List<Long> untouched = stateOf(setup);
        if (!after.equals(untouched)) {
            tell("changed something: " + after + " was " + untouched);
        }
    }

    void is(String what, long got, long want) {
        if (got != want) {
            tell(what + " answered " + got + ", due is " + want);
        }
    }

    void is(String what, boolean got, boolean want) {
        is(what, bit(got), bit(want));
    }

    static long bit(boolean is) {
        return is ? 1 : 0;
    }

    void end() {
        System.out.println(wrong == 0 ? "all answers are as due" + told() : wrong + " answers are not as due");
        if (wrong != 0) {
            System.exit(1);
        }
    }

    private String told() {
        return names.isEmpty() ? "" : ", in " + names.size() + " cases";
    }

    private void tell(String what) {
        wrong++;
        System.out.println(promise + theCase + what);
    }

    /** What a call answers, or a number below all answers for what it throws by its own code. */
    static long answer(Answer call) {
        try {
            return call.get();
        } catch (IndexOutOfBoundsException | IllegalArgumentException | IllegalStateException e) {
            if (!isOwn(e)) {
                throw e;
            }
            return e.getClass() == INDEX ? THREW_INDEX : e.getClass() == ARGUMENT ? THREW_ARGUMENT : THREW_STATE;
        }
    }

    private static String thrownBy(ScripHollow x, Call call) {
        try {
            call.on(x);
        } catch (RuntimeException e) {
            return e.getClass().getName() + (isOwn(e) ? "" : " of the machine or the library");
        }
        return "nothing";
    }

    private static ScripHollow called(ScripHollow x, Call call) {
        thrownBy(x, call);
        return x;
    }

    /** Whether the class threw it, rather than the machine or the library below it. */
    private static boolean isOwn(RuntimeException e) {
        StackTraceElement[] stack = e.getStackTrace();
        return stack.length > 0 && stack[0].getClassName().equals("ScripHollow");
    }

    /** All that can be asked, each part of a town of its own: what one answers behind 512 calls is free. */
    private static List<Long> stateOf(Setup setup) {
        List<Long> state = new ArrayList<>();
        int miners = countMiners(setup.make());
        state.add((long) miners);
        for (int m = 0; m < miners; m++) {
            addMiner(state, setup.make(), m);
        }
        addSettings(state, setup.make());
        addWhatComes(state, setup.make(), miners);
        return state;
    }

    private static int countMiners(ScripHollow x) {
        int count = 0;
        while (count < 12 && isMiner(x, count)) {
            count++;
        }
        return count;
    }

    private static boolean isMiner(ScripHollow x, int number) {
        return answer(() -> x.about(number, 0)) >= 0;
    }

    private static void addMiner(List<Long> state, ScripHollow x, int m) {
        for (int what = 0; what < 10; what++) {
            state.add((long) x.about(m, what));
        }
        for (int goods = 0; goods < 4; goods++) {
            state.add((long) x.has(m, goods));
            state.add((long) x.raised(m, goods));
            state.add((long) x.whyNot(m, goods, 50));
        }
        for (int issue = 0; issue < 40; issue++) {
            state.add((long) x.scrip(m, issue));
        }
        state.add((long) x.scripAnew(m));
        state.add((long) x.baskets(m));
    }

    private static void addSettings(List<Long> state, ScripHollow x) {
        for (int line = 0; line < 6; line++) {
            state.add((long) x.books(line));
        }
        state.add((long) x.breaches());
        state.add((long) x.dock(0));
        state.add(bit(x.check(false)));
        state.add((long) x.edition(0));
        for (int what = 0; what < 5; what++) {
            state.add((long) x.tell(what, 1));
        }
        for (int goods = 0; goods < 4; goods++) {
            state.add((long) x.price(goods, 1, false));
            state.add((long) x.price(goods, 1, true));
        }
        state.add((long) x.limit(0));
        state.add((long) x.discount(0));
        for (int law = 0; law < 3; law++) {
            state.add(bit(x.law(law, false)));
        }
        state.add(bit(x.obey(false)));
    }

    /** What only a change tells. */
    private static void addWhatComes(List<Long> state, ScripHollow x, int miners) {
        for (int m = 0; m < miners; m++) {
            state.add(bit(x.vote(m, false)));
        }
        state.add((long) x.give(1));
        state.add(answer(() -> x.soup()));
        state.add(answer(() -> bit(x.strike())));
        state.add((long) paydaysLeft(x));
        state.add(answer(() -> x.close(0)));
    }

    /** How many paydays can still be held: they are held. */
    static int paydaysLeft(ScripHollow x) {
        int left = 0;
        while (left < 41 && answer(() -> x.payday()) >= 0) {
            left++;
        }
        return left;
    }
}
