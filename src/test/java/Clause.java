import java.util.ArrayList;
import java.util.List;

/**
 * The throws clause of one call: each fault by itself, and all that can be there at once, of which the one that
 * the clause names first is thrown. Faults are told in the clause's order.
 */
final class Clause {
    interface Call { void on(ScripHollow x, int[] arguments); }

    /** An argument that is wrong, at its place; or, without a place, a town where the call is refused. */
    private record Fault(Class<? extends RuntimeException> due, String name, int place, int value, Due.Call turn,
            boolean isEdge) {
    }

    private final Due due;
    private final Due.Setup town;
    private final Call call;
    private final int[] arguments;
    private final List<Fault> faults = new ArrayList<>();

    /** On this town, with these arguments, the call is let through. */
    Clause(Due due, Due.Setup town, Call call, int... arguments) {
        this.due = due;
        this.town = town;
        this.call = call;
        this.arguments = arguments;
    }

    /** The numbers from 0 on at this place, of which there are so many. */
    Clause index(int place, String name, int count) {
        return range(Due.INDEX, place, name, 0, count - 1);
    }

    Clause argument(int place, String name, int least, int most) {
        return range(Due.ARGUMENT, place, name, least, most);
    }

    private Clause range(Class<? extends RuntimeException> kind, int place, String name, int least, int most) {
        lets(place, name + " " + least + ", the first that is let through", least);
        lets(place, name + " " + most + ", the last that is let through", most);
        wrong(kind, place, name + " " + (least - 1) + ", the first that is refused below", least - 1, true);
        wrong(kind, place, name + " " + (most + 1) + ", the first that is refused above", most + 1, true);
        wrong(kind, place, name + " as low as an int", Integer.MIN_VALUE, false);
        wrong(kind, place, name + " as high as an int", Integer.MAX_VALUE, false);
        return this;
    }

    Clause wrong(Class<? extends RuntimeException> kind, int place, String name, int value, boolean isEdge) {
        faults.add(new Fault(kind, name, place, value, null, isEdge));
        return this;
    }

    /** In a town that the turn has changed the call is refused; turns are made in the order in which they are told. */
    Clause state(String name, Due.Call turn) {
        faults.add(new Fault(Due.STATE, name, -1, 0, turn, true));
        return this;
    }

    /** The call with this value at this place is let through. */
    Clause lets(int place, String name, int value) {
        due.gives("let through with the " + name, 0, town, x -> {
            int[] changed = arguments.clone();
            changed[place] = value;
            return Due.answer(() -> onceDone(x, changed));
        });
        return this;
    }

    /** The call is let through in a town that the turn has changed. */
    Clause letsIn(String name, Due.Call turn) {
        due.gives("let through with " + name, 0, town, x -> {
            turn.on(x);
            return Due.answer(() -> onceDone(x, arguments.clone()));
        });
        return this;
    }

    Clause letsInStrike() {
        return letsIn("a strike", Towns::striking);
    }

    Clause letsInClosed() {
        return letsIn("the mine closed", x -> x.close(0)).letsIn("the mine closed in a strike",
                x -> Towns.striking(x).close(0));
    }

    /** The call is let through whatever the town and the miner 0 are. */
    Clause letsAlways() {
        return letsInStrike().letsInClosed().letsIn("the miner 0 dead", x -> x.die(0));
    }

    private long onceDone(ScripHollow x, int[] changed) {
        call.on(x, changed);
        return 0;
    }

    void run() {
        due.gives("let through without a fault", 0, town, x -> Due.answer(() -> onceDone(x, arguments.clone())));
        for (Fault fault : faults) {
            refuse(List.of(fault));
        }
        addTo(new ArrayList<>(), 0);
    }

    /** All sets of two and more faults from this one on, besides those that are there. */
    private void addTo(List<Fault> set, int from) {
        if (set.size() > 1) {
            refuse(set);
        }
        for (int k = from; k < faults.size(); k++) {
            Fault next = faults.get(k);
            boolean isFree = set.stream().noneMatch(one -> one.place() >= 0 && one.place() == next.place());
            if (next.isEdge() && isFree) {
                List<Fault> more = new ArrayList<>(set);
                more.add(next);
                addTo(more, k + 1);
            }
        }
    }

    private void refuse(List<Fault> set) {
        StringBuilder name = new StringBuilder("refused with ");
        int[] changed = arguments.clone();
        for (Fault fault : set) {
            name.append(name.charAt(name.length() - 1) == ' ' ? "" : "; and with ").append(fault.name());
            if (fault.place() >= 0) {
                changed[fault.place()] = fault.value();
            }
        }
        due.refused(name.toString(), set.get(0).due(), () -> turned(set), x -> call.on(x, changed));
    }

    private ScripHollow turned(List<Fault> set) {
        ScripHollow x = town.make();
        for (Fault fault : set) {
            if (fault.turn() != null) {
                fault.turn().on(x);
            }
        }
        return x;
    }
}
