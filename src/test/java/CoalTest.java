/** Promises 1 to 6: miners, coal. */
public final class CoalTest {
    private static final Due due = new Due();

    public static void main(String[] args) {
        newObject();
        miner();
        kin();
        dock();
        check();
        hew();
        due.end();
    }

    private static void newObject() {
        due.promise(1, "a new object");
        due.refused("about(0, 0)", Due.INDEX, ScripHollow::new, x -> x.about(0, 0));
        ScripHollow x = new ScripHollow();
        due.is("breaches()", x.breaches(), 0);
        for (int line = 0; line < 6; line++) {
            due.is("books", x.books(line), 0);
        }
        due.is("dock(0)", x.dock(0), 10);
        due.is("check(true)", x.check(true), false);
        due.is("edition(0)", x.edition(0), 12345);
        due.is("the rate", x.tell(0, 1), 10);
        due.is("the rent", x.tell(1, 0), 20);
        for (int kind = 2; kind <= 4; kind++) {
            due.is("the fee " + kind, x.tell(kind, 1), 0);
        }
        for (int goods = 0; goods < 4; goods++) {
            due.is("the store's price", x.price(goods, 1, false), 10);
            due.is("the hill's price", x.price(goods, 1, true), 10);
        }
        due.is("limit(0)", x.limit(0), 200);
        due.is("discount(0)", x.discount(0), 20);
        for (int law = 0; law < 3; law++) {
            due.is("law " + law, x.law(law, true), false);
        }
        due.is("obey(true)", x.obey(true), false);
        due.is("give(1)", x.give(1), 1);
        due.is("soup()", Due.answer(() -> x.soup()), Due.THREW_STATE);
        due.is("payday()", x.payday(), 0);
        due.is("two objects have nothing in common", new ScripHollow().dock(0), 10);
    }

    private static void miner() {
        due.promise(2, "miner");
        ScripHollow x = new ScripHollow();
        for (int m = 0; m < 10; m++) {
            due.is("miner()", x.miner(), m);
        }
        long[] first = {1, 0, 0, 0, 0, 0, 1, 0, 0, -1};
        for (int what = 0; what < 10; what++) {
            due.is("about(9, " + what + ") at first", x.about(9, what), first[what]);
        }
        for (int goods = 0; goods < 4; goods++) {
            due.is("has at first", x.has(9, goods), 0);
        }
        for (int issue = 0; issue < 40; issue++) {
            due.is("scrip at first", x.scrip(9, issue), 0);
        }
        due.is("vote at first", x.vote(9, true), false);
        due.refused("the eleventh", Due.STATE, () -> Towns.of(10), t -> t.miner());
        due.refused("the eleventh, with one dead", Due.STATE, () -> Towns.dead(Towns.of(10), 3), t -> t.miner());
        due.is("after a close", Towns.closed(Towns.of(1)).miner(), 1);
    }

    private static void kin() {
        due.promise(3, "kin");
        ScripHollow x = Towns.of(3);
        due.is("kin(0, 1)", x.kin(0, 1), -1);
        due.is("kin(0, 2)", x.kin(0, 2), 1);
        due.is("about(0, 9)", x.about(0, 9), 2);
        due.is("about(2, 9), which was not told", x.about(2, 9), -1);
        due.is("kin(0, NONE)", x.kin(0, ScripHollow.NONE), 2);
        due.is("about(0, 9)", x.about(0, 9), -1);
        x.die(1);
        due.is("a dead kin", x.kin(0, 1), -1);
        due.is("a dead one's kin", x.kin(1, 0), -1);
        due.is("about(1, 9)", x.about(1, 9), 0);
        due.refused("kin(2, 0)", Due.INDEX, () -> Towns.of(2), t -> t.kin(2, 0));
        due.refused("kin(-1, 0)", Due.INDEX, () -> Towns.of(2), t -> t.kin(-1, 0));
        due.refused("kin(-1, -1)", Due.INDEX, () -> Towns.of(2), t -> t.kin(-1, -1));
        due.refused("kin(0, 2)", Due.INDEX, () -> Towns.of(2), t -> t.kin(0, 2));
        due.refused("kin(0, -2)", Due.INDEX, () -> Towns.of(2), t -> t.kin(0, -2));
        due.refused("kin(2, 2)", Due.INDEX, () -> Towns.of(2), t -> t.kin(2, 2));
        due.refused("kin(1, 1)", Due.ARGUMENT, () -> Towns.of(2), t -> t.kin(1, 1));
    }

    private static void dock() {
        due.promise(4, "dock");
        ScripHollow x = Towns.of(1);
        x.check(false);
        due.is("dock(50)", x.dock(50), 10);
        due.is("hew(0, 7) at 50", x.hew(0, 7), 3);
        due.is("dock(0)", x.dock(0), 50);
        due.is("hew(0, 7) at 0", x.hew(0, 7), 10);
        due.is("dock(33)", x.dock(33), 0);
        due.refused("dock(-1)", Due.ARGUMENT, () -> Towns.of(1), t -> t.dock(-1));
        due.refused("dock(51)", Due.ARGUMENT, () -> Towns.of(1), t -> t.dock(51));
    }

    private static void check() {
        due.promise(5, "check");
        ScripHollow x = new ScripHollow();
        x.miner();
        due.is("check(true)", x.check(true), false);
        due.is("hew(0, 9) when one stands by", x.hew(0, 9), 9);
        due.is("check(true)", x.check(true), true);
        due.is("check(false)", x.check(false), true);
        due.is("hew(0, 9) when none does", x.hew(0, 9), 17);
        due.is("check(false)", x.check(false), false);
    }

    private static void hew() {
        due.promise(6, "hew");
        ScripHollow x = new ScripHollow();
        x.miner();
        x.miner();
        due.is("hew(0, 1), rounded down", x.hew(0, 1), 0);
        due.is("hew(0, 19)", x.hew(0, 19), 17);
        due.is("hew(0, 1000)", x.hew(0, 1000), 917);
        due.is("hew(1, 1)", x.hew(1, 1), 0);
        due.is("about(0, 1)", x.about(0, 1), 917);
        x.payday();
        due.is("hew(0, 10) behind a payday", x.hew(0, 10), 9);
        due.refused("hew(2, 0)", Due.INDEX, () -> Towns.of(2), t -> t.hew(2, 0));
        due.refused("hew(-1, 1)", Due.INDEX, () -> Towns.of(2), t -> t.hew(-1, 1));
        due.refused("hew(0, 0) of one dead", Due.ARGUMENT, () -> Towns.dead(Towns.of(2), 0), t -> t.hew(0, 0));
        due.refused("hew(0, 1001)", Due.ARGUMENT, () -> Towns.of(2), t -> t.hew(0, 1001));
        due.refused("hew(0, -5)", Due.ARGUMENT, () -> Towns.of(2), t -> t.hew(0, -5));
        due.refused("hew of one dead", Due.STATE, () -> Towns.dead(Towns.of(2), 0), t -> t.hew(0, 1));
        due.refused("hew in a strike", Due.STATE, () -> Towns.striking(Towns.of(2)), t -> t.hew(0, 1));
        due.refused("hew in a closed mine", Due.STATE, () -> Towns.closed(Towns.of(2)), t -> t.hew(0, 1));
        ScripHollow again = Towns.striking(Towns.of(1));
        again.strike();
        due.is("hew when a strike has ended", again.hew(0, 5), 5);
    }
}
