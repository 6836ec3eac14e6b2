/** Promises 1 to 6 at their edges, case by case: miners, coal. */
public final class CoalEdgeTest {
    private static final Due due = new Due();

    public static void main(String[] args) {
        newTown();
        newTownsSettings();
        newTownsOwn();
        miner();
        newMiner();
        kin();
        sameKin();
        dock();
        check();
        hewRounding();
        hew();
        hewRefused();
        due.end();
    }

    private static void newTown() {
        due.promise(1, "a new object");
        due.refused("there is no miner, not even 0", Due.INDEX, ScripHollow::new, x -> x.about(0, 0));
        due.gives("no payday was held, 40 are left", 40, ScripHollow::new, Due::paydaysLeft);
        due.gives("the first payday pays the issue 0", 9, () -> Towns.paid(9), x -> x.scrip(0, 0));
        due.gives("a payday without miners", 0, ScripHollow::new, x -> x.payday());
        due.gives("the fund is empty", 1, ScripHollow::new, x -> x.give(1));
        due.gives("the mine is open, all money is left without miners", 7, ScripHollow::new, x -> x.close(7));
        due.refused("there is no strike", Due.STATE, ScripHollow::new, x -> x.soup());
        due.gives("no breaches", 0, ScripHollow::new, x -> x.breaches());
        for (int line = 0; line < 6; line++) {
            int l = line;
            due.gives("the line " + line + " of the books is empty", 0, ScripHollow::new, x -> x.books(l));
        }
    }

    private static void newTownsSettings() {
        due.promise(1, "a new object, what is told at first");
        due.gives("the dock is 10", 10, ScripHollow::new, x -> x.dock(0));
        due.gives("no checkweighman", 0, ScripHollow::new, x -> Due.bit(x.check(true)));
        due.gives("the edition is 12345", 12345, ScripHollow::new, x -> x.edition(0));
        due.gives("the rate is 10", 10, ScripHollow::new, x -> x.tell(0, 1));
        due.gives("the rent is 20", 20, ScripHollow::new, x -> x.tell(ScripHollow.RENT, 1));
        for (int kind = ScripHollow.DOCTOR; kind <= ScripHollow.SCHOOL; kind++) {
            int k = kind;
            due.gives("the fee " + kind + " is 0", 0, ScripHollow::new, x -> x.tell(k, 1));
        }
        for (int goods = 0; goods < 4; goods++) {
            int g = goods;
            due.gives("the price of " + g + " at the store is 10", 10, ScripHollow::new, x -> x.price(g, 1, false));
            due.gives("the price of " + g + " over the hill is 10", 10, ScripHollow::new, x -> x.price(g, 1, true));
        }
        due.gives("the limit is 200", 200, ScripHollow::new, x -> x.limit(0));
        due.gives("the discount is 20", 20, ScripHollow::new, x -> x.discount(0));
        for (int law = 0; law < 3; law++) {
            int l = law;
            due.gives("the law " + law + " is not in force", 0, ScripHollow::new, x -> Due.bit(x.law(l, true)));
        }
        due.gives("the company does not obey", 0, ScripHollow::new, x -> Due.bit(x.obey(true)));
    }

    /** Another town is changed in all that it has, then a new one is made. */
    private static void newTownsOwn() {
        due.promise(1, "a new object, beside another that was changed");
        due.gives("its dock", 10, CoalEdgeTest::besideAnother, x -> x.dock(0));
        due.gives("its edition", 12345, CoalEdgeTest::besideAnother, x -> x.edition(0));
        due.gives("its rent", 20, CoalEdgeTest::besideAnother, x -> x.tell(ScripHollow.RENT, 0));
        due.gives("its prices at the store", 10, CoalEdgeTest::besideAnother, x -> x.price(0, 1, false));
        due.gives("its prices over the hill", 10, CoalEdgeTest::besideAnother, x -> x.price(0, 1, true));
        due.gives("its laws", 0, CoalEdgeTest::besideAnother, x -> Due.bit(x.law(0, false)));
        due.gives("its books", 0, CoalEdgeTest::besideAnother, x -> x.books(0));
        due.gives("its fund", 1, CoalEdgeTest::besideAnother, x -> x.give(1));
        due.gives("its paydays", 40, CoalEdgeTest::besideAnother, Due::paydaysLeft);
        due.gives("its miners", 0, CoalEdgeTest::besideAnother, x -> x.miner());
    }

    private static ScripHollow besideAnother() {
        ScripHollow other = Towns.paid(9);
        other.dock(1);
        other.edition(5);
        other.tell(ScripHollow.RENT, 1);
        other.price(0, 2, false);
        other.price(0, 3, true);
        other.law(0, true);
        other.give(5);
        return new ScripHollow();
    }

    private static void miner() {
        due.promise(2, "miner");
        due.gives("the first has the number 0", 0, ScripHollow::new, x -> x.miner());
        due.gives("the second has the number 1", 1, () -> Towns.of(1), x -> x.miner());
        due.gives("the tenth, the last, has the number 9", 9, () -> Towns.of(9), x -> x.miner());
        due.refused("the eleventh is refused", Due.STATE, () -> Towns.of(10), x -> x.miner());
        due.refused("the eleventh is refused with one dead", Due.STATE, () -> Towns.dead(Towns.of(10), 9),
                x -> x.miner());
        due.refused("the eleventh is refused with all dead", Due.STATE, CoalEdgeTest::allDead, x -> x.miner());
        due.gives("the number 9, though all are dead", 9, () -> nineDead(), x -> x.miner());
        due.gives("in a strike", 2, () -> Towns.striking(Towns.of(2)), x -> x.miner());
        due.gives("in a closed mine", 2, () -> Towns.closed(Towns.of(2)), x -> x.miner());
        due.gives("behind the last payday", 1, () -> Towns.afterPaydays(40), x -> x.miner());
    }

    private static ScripHollow nineDead() {
        ScripHollow x = Towns.of(9);
        for (int m = 0; m < 9; m++) {
            x.die(m);
        }
        return x;
    }

    private static ScripHollow allDead() {
        ScripHollow x = nineDead();
        x.miner();
        x.die(9);
        return x;
    }

    private static void newMiner() {
        due.promise(2, "miner, what the first and the last are and have at first");
        String[] names = {"alive", "coal", "coin", "all scrip", "debt", "arrears", "a house", "owed", "the latest pay",
            "the kin"};
        long[] first = {1, 0, 0, 0, 0, 0, 1, 0, 0, -1};
        for (int miner : new int[] {0, 9}) {
            for (int what = 0; what < 10; what++) {
                int w = what;
                due.gives(miner + ": " + names[what], first[what], () -> Towns.of(10), x -> x.about(miner, w));
            }
            for (int goods = 0; goods < 4; goods++) {
                int g = goods;
                due.gives(miner + ": goods " + goods, 0, () -> Towns.of(10), x -> x.has(miner, g));
            }
            due.gives(miner + ": scrip of the first issue", 0, () -> Towns.of(10), x -> x.scrip(miner, 0));
            due.gives(miner + ": scrip of the last issue", 0, () -> Towns.of(10), x -> x.scrip(miner, 39));
            due.gives(miner + ": for a strike", 0, () -> Towns.of(10), x -> Due.bit(x.vote(miner, true)));
        }
        due.gives("none of what those before have", 0, () -> Towns.paid(30), x -> x.about(x.miner(), 3));
    }

    private static void kin() {
        due.promise(3, "kin");
        due.gives("there was none", ScripHollow.NONE, () -> Towns.of(2), x -> x.kin(0, 1));
        due.gives("the one before", 9, () -> kinTold(0, 9), x -> x.kin(0, 1));
        due.gives("0, the first, as kin", 0, () -> kinTold(9, 0), x -> x.about(9, 9));
        due.gives("9, the last, as kin", 9, () -> kinTold(0, 9), x -> x.about(0, 9));
        due.gives("NONE, where one was, tells the one before", 9, () -> kinTold(0, 9), x -> x.kin(0, ScripHollow.NONE));
        due.gives("NONE, where one was: none is then", -1, () -> kinTold(0, 9), x -> {
            x.kin(0, ScripHollow.NONE);
            return x.about(0, 9);
        });
        due.gives("NONE, where none was", -1, () -> Towns.of(1), x -> x.kin(0, ScripHollow.NONE));
        due.gives("the same once more", 9, () -> kinTold(0, 9), x -> x.kin(0, 9));
        due.gives("it is not told of the other", -1, () -> kinTold(0, 9), x -> x.about(9, 9));
        due.gives("each is the kin of the other", 0, () -> kinTold(0, 9), x -> {
            x.kin(9, 0);
            return x.about(9, 9);
        });
        due.gives("one is the kin of two", 9, () -> kinTold(0, 9), x -> {
            x.kin(1, 9);
            return x.about(0, 9);
        });
        due.gives("a dead one as kin", 1, () -> Towns.dead(Towns.of(2), 1), x -> {
            x.kin(0, 1);
            return x.about(0, 9);
        });
        due.gives("the kin of a dead one", 1, () -> Towns.dead(Towns.of(2), 0), x -> {
            x.kin(0, 1);
            return x.about(0, 9);
        });
        due.refused("-2 is the first that is refused below NONE", Due.INDEX, () -> Towns.of(3), x -> x.kin(0, -2));
        due.refused("3 is the first that is refused above 2, the last", Due.INDEX, () -> Towns.of(3), x -> x.kin(0, 3));
        due.refused("without miners", Due.INDEX, ScripHollow::new, x -> x.kin(0, ScripHollow.NONE));
        due.refused("NONE is no miner that has a kin", Due.INDEX, () -> Towns.of(3), x -> x.kin(ScripHollow.NONE, 0));
    }

    private static ScripHollow kinTold(int miner, int other) {
        ScripHollow x = Towns.of(10);
        x.kin(miner, other);
        return x;
    }

    private static void sameKin() {
        due.promise(3, "kin, both the same");
        due.refused("0, the first", Due.ARGUMENT, () -> Towns.of(10), x -> x.kin(0, 0));
        due.refused("9, the last", Due.ARGUMENT, () -> Towns.of(10), x -> x.kin(9, 9));
        due.refused("0, the only one", Due.ARGUMENT, () -> Towns.of(1), x -> x.kin(0, 0));
        due.refused("one dead", Due.ARGUMENT, () -> Towns.dead(Towns.of(2), 1), x -> x.kin(1, 1));
        due.refused("one that has a kin, which stays", Due.ARGUMENT, () -> kinTold(3, 4), x -> x.kin(3, 3));
        due.refused("10, which is no miner: that comes first", Due.INDEX, () -> Towns.of(10), x -> x.kin(10, 10));
        due.refused("NONE, which is no miner: that comes first", Due.INDEX, () -> Towns.of(10), x -> x.kin(-1, -1));
        due.refused("-2, which is no miner: that comes first", Due.INDEX, () -> Towns.of(10), x -> x.kin(-2, -2));
        due.refused("0, without miners: that comes first", Due.INDEX, ScripHollow::new, x -> x.kin(0, 0));
    }

    private static void dock() {
        due.promise(4, "dock");
        due.gives("the dock before", 10, () -> Towns.of(1), x -> x.dock(11));
        due.gives("0, the least, is told", 0, () -> docked(0), x -> x.dock(7));
        due.gives("50, the most, is told", 50, () -> docked(50), x -> x.dock(7));
        due.gives("0 takes nothing", 1000, () -> docked(0), x -> x.hew(0, 1000));
        due.gives("50 takes half", 500, () -> docked(50), x -> x.hew(0, 1000));
        due.gives("1 takes a hundredth", 990, () -> docked(1), x -> x.hew(0, 1000));
        due.gives("the same once more", 7, () -> docked(7), x -> x.dock(7));
        due.gives("coal that was hewn before stays as it is", 90, () -> docked(10), x -> {
            x.hew(0, 100);
            x.dock(50);
            return x.about(0, 1);
        });
        due.refused("-1 is the first that is refused below", Due.ARGUMENT, () -> docked(7), x -> x.dock(-1));
        due.refused("51 is the first that is refused above", Due.ARGUMENT, () -> docked(7), x -> x.dock(51));
    }

    /** One miner, no checkweighman, this dock. */
    private static ScripHollow docked(int percent) {
        ScripHollow x = new ScripHollow();
        x.miner();
        x.dock(percent);
        return x;
    }

    private static void check() {
        due.promise(5, "check");
        due.gives("none did at first", 0, ScripHollow::new, x -> Due.bit(x.check(false)));
        due.gives("one did, and does", 1, () -> checked(true), x -> Due.bit(x.check(true)));
        due.gives("one did, and does not", 1, () -> checked(true), x -> Due.bit(x.check(false)));
        due.gives("none did, though one did before", 0, () -> checked(false), x -> Due.bit(x.check(true)));
        due.gives("where one stands by, no dock is taken", 1000, () -> checked(true), x -> x.hew(0, 1000));
        due.gives("where none stands by any more, it is", 500, () -> checked(false), x -> x.hew(0, 1000));
        due.gives("in a strike", 1, () -> Towns.striking(checked(true)), x -> Due.bit(x.check(false)));
        due.gives("in a closed mine", 1, () -> Towns.closed(checked(true)), x -> Due.bit(x.check(false)));
        due.gives("coal that was hewn before stays as it is", 500, () -> checked(false), x -> {
            x.hew(0, 1000);
            x.check(true);
            return x.about(0, 1);
        });
    }

    /** One miner, a dock of 50; a checkweighman that stands by, or does not any more. */
    private static ScripHollow checked(boolean is) {
        ScripHollow x = docked(50);
        x.check(true);
        x.check(is);
        return x;
    }

    private static void hewRounding() {
        due.promise(6, "hew, rounded down");
        int[][] all = {{10, 1, 0}, {10, 9, 8}, {10, 10, 9}, {10, 11, 9}, {10, 19, 17}, {10, 20, 18}, {50, 1, 0},
            {50, 2, 1}, {50, 3, 1}, {1, 1, 0}, {1, 99, 98}, {1, 100, 99}, {1, 101, 99}, {33, 3, 2}, {0, 1, 1}};
        for (int[] one : all) {
            due.gives("weight " + one[1] + " at a dock of " + one[0], one[2], () -> docked(one[0]),
                    x -> x.hew(0, one[1]));
        }
        due.gives("each time by itself: 1 and 1 at a dock of 50", 0, () -> docked(50), x -> {
            x.hew(0, 1);
            return x.hew(0, 1);
        });
    }

    private static void hew() {
        due.promise(6, "hew");
        due.gives("1, the least", 1, () -> Towns.of(1), x -> x.hew(0, 1));
        due.gives("1000, the most", 1000, () -> Towns.of(1), x -> x.hew(0, 1000));
        due.gives("all of it together", 1001, () -> Towns.of(1), x -> {
            x.hew(0, 1000);
            return x.hew(0, 1);
        });
        due.gives("what gives no coal is let through", 5, () -> docked(50), x -> {
            x.hew(0, 10);
            return x.hew(0, 1);
        });
        due.gives("0, the first miner", 7, () -> hewnByTwo(), x -> x.about(0, 1));
        due.gives("9, the last miner", 8, () -> hewnByTwo(), x -> x.about(9, 1));
        due.gives("those between have none", 0, () -> hewnByTwo(), x -> x.about(1, 1) + x.about(8, 1));
        due.gives("behind a payday it begins anew", 3, () -> Towns.paid(9), x -> x.hew(0, 3));
        due.gives("behind the last payday", 3, () -> Towns.afterPaydays(40), x -> x.hew(0, 3));
        due.gives("when a strike has ended", 3, CoalEdgeTest::strikeEnded, x -> x.hew(0, 3));
        due.gives("with another one dead", 3, () -> Towns.dead(Towns.of(2), 1), x -> x.hew(0, 3));
        due.gives("so much at the 300th time", 300000, () -> Towns.of(1), x -> {
            for (int k = 1; k < 300; k++) {
                x.hew(0, 1000);
            }
            return x.hew(0, 1000);
        });
    }

    private static ScripHollow hewnByTwo() {
        ScripHollow x = Towns.of(10);
        x.hew(0, 7);
        x.hew(9, 8);
        return x;
    }

    private static ScripHollow strikeEnded() {
        ScripHollow x = Towns.striking(Towns.of(1));
        x.strike();
        return x;
    }

    private static void hewRefused() {
        due.promise(6, "hew, refused");
        due.refused("0 is the first weight that is refused below", Due.ARGUMENT, () -> Towns.of(1), x -> x.hew(0, 0));
        due.refused("1001 is the first weight that is refused above", Due.ARGUMENT, () -> Towns.of(1),
                x -> x.hew(0, 1001));
        due.refused("a weight below 0 takes no coal away", Due.ARGUMENT, CoalEdgeTest::hewnByTwo, x -> x.hew(0, -7));
        due.refused("without miners", Due.INDEX, ScripHollow::new, x -> x.hew(0, 1));
        due.refused("the miner 1 of one", Due.INDEX, () -> Towns.of(1), x -> x.hew(1, 1));
        due.refused("the miner dead", Due.STATE, () -> Towns.dead(Towns.of(2), 1), x -> x.hew(1, 1));
        due.refused("a strike, for one that is not for it", Due.STATE, () -> Towns.striking(Towns.votes(2, 1)),
                x -> x.hew(2, 1));
        due.refused("a strike, for one told since", Due.STATE, CoalEdgeTest::toldInStrike, x -> x.hew(1, 1));
        due.refused("the mine closed", Due.STATE, () -> Towns.closed(Towns.of(1)), x -> x.hew(0, 1));
        due.refused("the mine closed in a strike", Due.STATE, () -> Towns.closed(Towns.striking(Towns.of(1))),
                x -> x.hew(0, 1));
    }

    private static ScripHollow toldInStrike() {
        ScripHollow x = Towns.striking(Towns.of(1));
        x.miner();
        return x;
    }
}
