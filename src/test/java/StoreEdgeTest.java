/** Promises 11 to 18 at their edges, case by case: store, tavern, hill. */
public final class StoreEdgeTest {
    private static final Due due = new Due();

    public static void main(String[] args) {
        price();
        raised();
        limit();
        whyNotLimit();
        whyNotOrder();
        buyPaidWith();
        buyLowestFirst();
        buyPriceAhead();
        buy();
        buyRefused();
        over();
        overRefused();
        discount();
        changeRounding();
        change();
        changeRefused();
        due.end();
    }

    private static ScripHollow priced(int goods, int price, boolean isHill) {
        ScripHollow x = Towns.of(1);
        x.price(goods, price, isHill);
        return x;
    }

    private static void price() {
        due.promise(11, "price");
        for (boolean isHill : new boolean[] {false, true}) {
            String where = isHill ? "over the hill: " : "at the store: ";
            due.gives(where + "0, the first of the goods", 7, () -> priced(0, 7, isHill), x -> x.price(0, 8, isHill));
            due.gives(where + "3, the last of the goods", 7, () -> priced(3, 7, isHill), x -> x.price(3, 8, isHill));
            due.gives(where + "1, the least", 1, () -> priced(0, 1, isHill), x -> x.price(0, 8, isHill));
            due.gives(where + "100, the most", 100, () -> priced(0, 100, isHill), x -> x.price(0, 8, isHill));
            due.gives(where + "the same once more", 7, () -> priced(1, 7, isHill), x -> x.price(1, 7, isHill));
            due.gives(where + "the other place has its own", 10, () -> priced(2, 7, isHill),
                    x -> x.price(2, 8, !isHill));
            due.gives(where + "other goods have their own", 10, () -> priced(2, 7, isHill), x -> x.price(3, 8, isHill));
            due.refused(where + "0 is the first that is refused below", Due.ARGUMENT, () -> priced(0, 7, isHill),
                    x -> x.price(0, 0, isHill));
            due.refused(where + "101 is the first that is refused above", Due.ARGUMENT, () -> priced(0, 7, isHill),
                    x -> x.price(0, 101, isHill));
            due.refused(where + "no such goods, and out of range: the goods come first", Due.INDEX,
                    () -> priced(0, 7, isHill), x -> x.price(4, 0, isHill));
        }
    }

    private static void raised() {
        due.promise(12, "raised");
        int[][] all = {{10, 0, 10}, {10, 19, 10}, {10, 20, 11}, {10, 39, 11}, {10, 40, 12}, {1, 199, 1}, {1, 200, 2},
            {100, 1, 100}, {100, 2, 101}, {100, 3, 101}, {100, 199, 199}, {100, 1000, 600}, {99, 2, 99}, {67, 3, 68}};
        for (int[] one : all) {
            due.gives("a price of " + one[0] + " by a debt of " + one[1], one[2], () -> Towns.indebted(one[1]), x -> {
                x.price(3, one[0], false);
                return x.raised(0, 3);
            });
        }
        due.gives("0, the first of the goods", 7, () -> priced(0, 7, false), x -> x.raised(0, 0));
        due.gives("3, the last of the goods", 7, () -> priced(3, 7, false), x -> x.raised(0, 3));
        due.gives("the debt of the miner, not of another", 10, () -> Towns.indebted(100), x -> x.raised(x.miner(), 0));
        due.gives("the last miner", 10, () -> Towns.of(10), x -> x.raised(9, 0));
        due.gives("the price over the hill is another", 10, () -> priced(0, 7, true), x -> x.raised(0, 0));
        due.gives("refused by a strike", 10, () -> Towns.striking(Towns.of(1)), x -> x.raised(0, 0));
        due.gives("refused by a closed mine", 10, () -> Towns.closed(Towns.of(1)), x -> x.raised(0, 0));
        due.gives("refused to one dead", 10, () -> Towns.dead(Towns.of(1), 0), x -> x.raised(0, 0));
        due.gives("refused by the limit", 20, () -> Towns.indebted(200), x -> x.raised(0, 0));
        due.gives("scrip and coin lower nothing", 10, () -> Towns.paid(500), x -> x.raised(0, 0));
        due.refused("without miners", Due.INDEX, ScripHollow::new, x -> x.raised(0, 0));
        due.changesNothing("it is a question", () -> Towns.indebted(100), x -> x.raised(0, 0));
    }

    private static ScripHollow limited(int limit, ScripHollow x) {
        x.limit(limit);
        return x;
    }

    private static void limit() {
        due.promise(13, "limit");
        due.gives("the limit before", 200, () -> Towns.of(1), x -> x.limit(7));
        due.gives("0, the least", 0, () -> limited(0, Towns.of(1)), x -> x.limit(7));
        due.gives("1000, the most", 1000, () -> limited(1000, Towns.of(1)), x -> x.limit(7));
        due.gives("the same once more", 7, () -> limited(7, Towns.of(1)), x -> x.limit(7));
        due.gives("0 lets no debt through", 3, () -> limited(0, priced(0, 1, false)), x -> x.whyNot(0, 0, 1));
        due.gives("0 lets through what is paid", 0, () -> limited(0, Towns.paid(10)), x -> x.whyNot(0, 0, 1));
        due.gives("1000 lets a debt of 1000 through", 0, () -> limited(1000, priced(0, 100, false)),
                x -> x.whyNot(0, 0, 10));
        due.gives("1000 lets a debt of 1100 not through", 3, () -> limited(1000, priced(0, 100, false)),
                x -> x.whyNot(0, 0, 11));
        due.gives("a debt that is above it stays", 100, () -> limited(7, Towns.indebted(100)), x -> x.about(0, 4));
        due.refused("-1 is the first that is refused below", Due.ARGUMENT, () -> Towns.of(1), x -> x.limit(-1));
        due.refused("1001 is the first that is refused above", Due.ARGUMENT, () -> Towns.of(1), x -> x.limit(1001));
    }

    /** One miner with this debt, scrip and coin; nothing is taken off a wage. */
    private static ScripHollow with(int debt, int scrip, int coin) {
        ScripHollow x = Towns.indebted(debt);
        x.edition(0);
        Towns.pay(x, scrip);
        Towns.payCoin(x, coin);
        return x;
    }

    private static void whyNotLimit() {
        due.promise(14, "whyNot, the limit");
        due.gives("the debt is the limit then", 0, () -> Towns.of(1), x -> x.whyNot(0, 0, 20));
        due.gives("the debt is 1 above it then", 3, () -> limited(199, Towns.of(1)), x -> x.whyNot(0, 0, 20));
        due.gives("the debt there was counts", 0, () -> limited(196, with(20, 0, 0)), x -> x.whyNot(0, 0, 16));
        due.gives("the debt there was counts, 1 above", 3, () -> limited(195, with(20, 0, 0)), x -> x.whyNot(0, 0, 16));
        due.gives("just enough scrip", 0, () -> limited(0, with(0, 30, 0)), x -> x.whyNot(0, 0, 3));
        due.gives("1 less scrip", 3, () -> limited(0, with(0, 29, 0)), x -> x.whyNot(0, 0, 3));
        due.gives("just enough coin", 0, () -> limited(0, with(0, 0, 30)), x -> x.whyNot(0, 0, 3));
        due.gives("1 less coin", 3, () -> limited(0, with(0, 0, 29)), x -> x.whyNot(0, 0, 3));
        due.gives("just enough scrip and coin", 0, () -> limited(0, with(0, 11, 19)), x -> x.whyNot(0, 0, 3));
        due.gives("1 less scrip and coin", 3, () -> limited(0, with(0, 10, 19)), x -> x.whyNot(0, 0, 3));
        due.gives("scrip, coin and credit, just enough", 0, () -> limited(5, with(0, 10, 15)), x -> x.whyNot(0, 0, 3));
        due.gives("scrip, coin and credit, 1 less", 3, () -> limited(4, with(0, 10, 15)), x -> x.whyNot(0, 0, 3));
        due.gives("each is rounded down, not all together", 0, () -> limited(39, with(19, 0, 0)),
                x -> x.whyNot(0, 0, 2));
        due.gives("at the limit, and paid", 0, () -> limited(100, with(100, 15, 0)), x -> x.whyNot(0, 0, 1));
        due.gives("at the limit, and 1 not paid", 3, () -> limited(100, with(100, 14, 0)), x -> x.whyNot(0, 0, 1));
        due.gives("above the limit, not more than it is", 0, () -> limited(50, with(100, 15, 0)),
                x -> x.whyNot(0, 0, 1));
        due.gives("above the limit, 1 more than it is", 3, () -> limited(50, with(100, 14, 0)),
                x -> x.whyNot(0, 0, 1));
        due.gives("above the limit, more paid than it costs", 0, () -> limited(50, with(100, 99, 0)),
                x -> x.whyNot(0, 0, 1));
        due.gives("1, the least there is to buy", 0, () -> limited(10, Towns.of(1)), x -> x.whyNot(0, 0, 1));
        due.gives("50, the most there is to buy", 0, () -> limited(500, Towns.of(1)), x -> x.whyNot(0, 0, 50));
        due.gives("50 for 1 more", 3, () -> limited(499, Towns.of(1)), x -> x.whyNot(0, 0, 50));
        due.gives("another's scrip does not count", 3, () -> limited(0, Towns.paid(500, 0)), x -> x.whyNot(1, 0, 1));
        due.gives("the dearest there is", 3, () -> Towns.indebted(1000), x -> {
            x.price(3, 100, false);
            return x.whyNot(0, 3, 50);
        });
        due.changesNothing("it is a question, be it 0", () -> with(20, 30, 40), x -> x.whyNot(0, 0, 5));
        due.changesNothing("it is a question, be it 3", () -> with(20, 30, 40), x -> x.whyNot(0, 0, 50));
    }

    private static void whyNotOrder() {
        due.promise(14, "whyNot, the first reason");
        due.gives("none", 0, () -> Towns.of(1), x -> x.whyNot(0, 0, 1));
        due.gives("1: a strike", 1, () -> Towns.striking(Towns.of(1)), x -> x.whyNot(0, 0, 1));
        due.gives("1: the mine closed", 1, () -> Towns.closed(Towns.of(1)), x -> x.whyNot(0, 0, 1));
        due.gives("2: not alive", 2, () -> Towns.dead(Towns.of(1), 0), x -> x.whyNot(0, 0, 1));
        due.gives("3: the limit", 3, () -> limited(0, Towns.of(1)), x -> x.whyNot(0, 0, 1));
        due.gives("1, and 2, in a strike", 1, () -> strikingWithDead(), x -> x.whyNot(1, 0, 1));
        due.gives("1, and 2, the mine closed", 1, () -> Towns.closed(Towns.dead(Towns.of(1), 0)),
                x -> x.whyNot(0, 0, 1));
        due.gives("1, and 3, in a strike", 1, () -> limited(0, Towns.striking(Towns.of(1))), x -> x.whyNot(0, 0, 1));
        due.gives("1, and 3, the mine closed", 1, () -> limited(0, Towns.closed(Towns.of(1))), x -> x.whyNot(0, 0, 1));
        due.gives("2, and 3", 2, () -> limited(0, Towns.dead(Towns.of(1), 0)), x -> x.whyNot(0, 0, 1));
        due.gives("1, 2 and 3, in a strike", 1, () -> limited(0, strikingWithDead()), x -> x.whyNot(1, 0, 1));
        due.gives("none when the strike has ended", 0, () -> Towns.striking(Towns.of(1)), x -> {
            x.strike();
            return x.whyNot(0, 0, 1);
        });
        due.gives("another one's death is no reason", 0, () -> Towns.dead(Towns.of(2), 1), x -> x.whyNot(0, 0, 1));
        due.refused("many 0 in a closed mine", Due.ARGUMENT, () -> Towns.closed(Towns.of(1)), x -> x.whyNot(0, 0, 0));
        due.refused("many 51 of one dead", Due.ARGUMENT, () -> Towns.dead(Towns.of(1), 0), x -> x.whyNot(0, 0, 51));
        due.refused("without miners", Due.INDEX, ScripHollow::new, x -> x.whyNot(0, 0, 1));
    }

    private static ScripHollow strikingWithDead() {
        return Towns.striking(Towns.dead(Towns.of(2), 1));
    }

    /** Three for 30 are bought: what is left is told. */
    private static void paysThree(String name, int scrip, int coin, int scripLeft, int coinLeft, int debt) {
        due.test(name, () -> {
            ScripHollow x = with(0, scrip, coin);
            due.is("buy", x.buy(0, 0, 3), debt);
            due.is("debt", x.about(0, 4), debt);
            due.is("scrip", x.about(0, 3), scripLeft);
            due.is("coin", x.about(0, 2), coinLeft);
            due.is("what came back", x.books(1), scrip - scripLeft);
            due.is("goods", x.has(0, 0), 3);
        });
    }

    private static void buyPaidWith() {
        due.promise(15, "buy, what it is paid with");
        paysThree("scrip, 1 more than it costs: the coin stays", 31, 5, 1, 5, 0);
        paysThree("scrip, just what it costs: the coin stays", 30, 5, 0, 5, 0);
        paysThree("scrip, 1 less: coin then", 29, 5, 0, 4, 0);
        paysThree("scrip and coin, 1 more than it costs", 20, 11, 0, 1, 0);
        paysThree("scrip and coin, just what it costs", 20, 10, 0, 0, 0);
        paysThree("scrip and coin, 1 less: debt then", 20, 9, 0, 0, 1);
        paysThree("coin, 1 more than it costs", 0, 31, 0, 1, 0);
        paysThree("coin, just what it costs", 0, 30, 0, 0, 0);
        paysThree("coin, 1 less: debt then", 0, 29, 0, 0, 1);
        paysThree("neither: debt", 0, 0, 0, 0, 30);
        paysThree("scrip and debt", 29, 0, 0, 0, 1);
    }

    /** The scrip of the issues 0, 1 and 2, then what is left of it when one for 10 was bought. */
    private static void leaves(String name, int[] pays, int[] left) {
        due.test(name, () -> {
            ScripHollow x = Towns.of(1);
            for (int pay : pays) {
                Towns.pay(x, pay);
            }
            x.buy(0, 0, 1);
            for (int issue = 0; issue < left.length; issue++) {
                due.is("the issue " + issue, x.scrip(0, issue), left[issue]);
            }
        });
    }

    private static void buyLowestFirst() {
        due.promise(15, "buy, the lowest issue first");
        leaves("1 more than it costs is left", new int[] {11, 20, 30}, new int[] {1, 20, 30});
        leaves("just used up: the next stays", new int[] {10, 20, 30}, new int[] {0, 20, 30});
        leaves("1 less: 1 of the next", new int[] {9, 20, 30}, new int[] {0, 19, 30});
        leaves("the first is empty", new int[] {0, 20, 30}, new int[] {0, 10, 30});
        leaves("one between is empty", new int[] {9, 0, 30}, new int[] {0, 0, 29});
        leaves("all three", new int[] {3, 3, 30}, new int[] {0, 0, 26});
        leaves("alike: the lowest", new int[] {10, 10, 10}, new int[] {0, 10, 10});
        due.test("the last issue", () -> {
            ScripHollow x = Towns.afterPaydays(39);
            Towns.pay(x, 15);
            x.buy(0, 0, 1);
            due.is("the issue 39", x.scrip(0, 39), 5);
        });
    }

    private static void buyPriceAhead() {
        due.promise(15, "buy, by the debt ahead of buying");
        due.gives("the debt would raise the second one", 39, () -> with(19, 0, 0), x -> x.buy(0, 0, 2));
        due.gives("the debt raises both", 42, () -> with(20, 0, 0), x -> x.buy(0, 0, 2));
        due.gives("each is rounded down, not all together", 19 + 50, () -> with(19, 0, 0), x -> x.buy(0, 0, 5));
        due.gives("the next time by the debt then", 50, () -> with(19, 0, 0), x -> {
            x.buy(0, 0, 2);
            return x.buy(0, 0, 1);
        });
        due.gives("it is raised, be it paid with scrip", 9, () -> with(20, 20, 0), x -> {
            x.buy(0, 0, 1);
            return x.about(0, 3);
        });
    }

    private static void buy() {
        due.promise(15, "buy");
        due.gives("1, the least", 1, () -> with(0, 500, 0), x -> {
            x.buy(0, 0, 1);
            return x.has(0, 0);
        });
        due.gives("50, the most", 50, () -> with(0, 500, 0), x -> {
            x.buy(0, 0, 50);
            return x.has(0, 0);
        });
        due.gives("0, the first of the goods, at its price", 7, () -> priced(0, 7, false), x -> x.buy(0, 0, 1));
        due.gives("3, the last of the goods, at its price", 7, () -> priced(3, 7, false), x -> x.buy(0, 3, 1));
        due.test("no other goods", () -> {
            ScripHollow x = Towns.of(1);
            x.buy(0, 3, 2);
            due.is("3", x.has(0, 3), 2);
            due.is("0 to 2", x.has(0, 0) + x.has(0, 1) + x.has(0, 2), 0);
        });
        due.gives("the debt that is the limit", 200, () -> Towns.of(1), x -> x.buy(0, 0, 20));
        due.gives("above the limit, not more than it is", 100, () -> limited(50, with(100, 15, 0)),
                x -> x.buy(0, 0, 1));
        due.gives("scrip lessens no debt", 20, () -> with(20, 500, 0), x -> x.buy(0, 0, 1));
        due.test("the last of ten pays by themselves", () -> {
            ScripHollow x = Towns.paid(50, 50, 50, 50, 50, 50, 50, 50, 50, 50);
            x.buy(9, 0, 6);
            due.is("debt of 9", x.about(9, 4), 10);
            due.is("scrip of 9", x.about(9, 3), 0);
            due.is("scrip of 8", x.about(8, 3), 50);
            due.is("scrip of 0", x.about(0, 3), 50);
        });
    }

    private static void buyRefused() {
        due.promise(15, "buy, refused");
        due.refused("1 above the limit", Due.STATE, () -> limited(199, Towns.of(1)), x -> x.buy(0, 0, 20));
        due.refused("above the limit with all scrip and coin", Due.STATE, () -> limited(4, with(0, 10, 15)),
                x -> x.buy(0, 0, 3));
        due.refused("above the limit, 1 more than it is", Due.STATE, () -> limited(50, with(100, 14, 0)),
                x -> x.buy(0, 0, 1));
        due.refused("not alive", Due.STATE, () -> Towns.dead(Towns.paid(500), 0), x -> x.buy(0, 0, 1));
        due.refused("a strike", Due.STATE, () -> Towns.striking(Towns.paid(500)), x -> x.buy(0, 0, 1));
        due.refused("the mine closed", Due.STATE, () -> Towns.closed(Towns.coined(500)), x -> x.buy(0, 0, 1));
        due.refused("many 0", Due.ARGUMENT, () -> Towns.paid(500), x -> x.buy(0, 0, 0));
        due.refused("many below 0 gives nothing back", Due.ARGUMENT, () -> Towns.paid(500), x -> x.buy(0, 0, -1));
        due.refused("many 51", Due.ARGUMENT, () -> Towns.paid(9000), x -> x.buy(0, 0, 51));
        due.refused("many 51, and the mine closed", Due.ARGUMENT, () -> Towns.closed(Towns.of(1)),
                x -> x.buy(0, 0, 51));
        due.refused("goods 4, and the mine closed", Due.INDEX, () -> Towns.closed(Towns.of(1)), x -> x.buy(0, 4, 1));
        due.refused("without miners, many 0", Due.INDEX, ScripHollow::new, x -> x.buy(0, 0, 0));
    }

    private static void over() {
        due.promise(16, "over");
        due.gives("just what it costs", 0, () -> Towns.coined(30), x -> x.over(0, 0, 3));
        due.gives("1 more than it costs", 1, () -> Towns.coined(31), x -> x.over(0, 0, 3));
        due.gives("1, the least", 20, () -> Towns.coined(30), x -> x.over(0, 0, 1));
        due.gives("50, the most", 0, () -> Towns.coined(500), x -> x.over(0, 0, 50));
        due.gives("50 at 100, the dearest", 1, () -> Towns.coined(5001), x -> {
            x.price(3, 100, true);
            return x.over(0, 3, 50);
        });
        due.gives("0, the first of the goods", 3, () -> Towns.coined(30), x -> {
            x.over(0, 0, 3);
            return x.has(0, 0);
        });
        due.gives("3, the last of the goods", 3, () -> Towns.coined(30), x -> {
            x.over(0, 3, 3);
            return x.has(0, 3);
        });
        due.gives("the debt raises nothing", 0, () -> with(200, 0, 10), x -> x.over(0, 0, 1));
        due.gives("the debt is not paid", 200, () -> with(200, 0, 20), x -> {
            x.over(0, 0, 1);
            return x.about(0, 4);
        });
        due.gives("the price at the store is another", 20, () -> Towns.coined(30), x -> {
            x.price(0, 1, false);
            return x.over(0, 0, 1);
        });
        due.gives("scrip is not used", 50, () -> with(0, 50, 10), x -> {
            x.over(0, 0, 1);
            return x.about(0, 3);
        });
        due.gives("no scrip came back", 0, () -> with(0, 50, 10), x -> {
            x.over(0, 0, 1);
            return x.books(1);
        });
        due.gives("in a strike", 0, () -> Towns.striking(Towns.coined(10)), x -> x.over(0, 0, 1));
        due.gives("in a closed mine", 0, () -> Towns.closed(Towns.coined(10)), x -> x.over(0, 0, 1));
        due.gives("at a limit of 0", 0, () -> limited(0, Towns.coined(10)), x -> x.over(0, 0, 1));
    }

    private static void overRefused() {
        due.promise(16, "over, refused");
        due.refused("1 less coin than it costs", Due.STATE, () -> Towns.coined(29), x -> x.over(0, 0, 3));
        due.refused("no coin, and a price of 1", Due.STATE, () -> priced(0, 1, true), x -> x.over(0, 0, 1));
        due.refused("scrip is no coin", Due.STATE, () -> with(0, 500, 9), x -> x.over(0, 0, 1));
        due.refused("50 at 100, 1 less", Due.STATE, StoreEdgeTest::dearHill, x -> x.over(0, 3, 50));
        due.refused("not alive", Due.STATE, () -> Towns.dead(Towns.coined(30), 0), x -> x.over(0, 0, 1));
        due.refused("many 0", Due.ARGUMENT, () -> Towns.coined(30), x -> x.over(0, 0, 0));
        due.refused("many below 0 gives no coin", Due.ARGUMENT, () -> Towns.coined(30), x -> x.over(0, 0, -1));
        due.refused("many 51", Due.ARGUMENT, () -> Towns.coined(900), x -> x.over(0, 0, 51));
        due.refused("many 51, and less coin", Due.ARGUMENT, () -> Towns.of(1), x -> x.over(0, 0, 51));
        due.refused("goods 4, and less coin", Due.INDEX, () -> Towns.of(1), x -> x.over(0, 4, 1));
        due.refused("without miners, many 0", Due.INDEX, ScripHollow::new, x -> x.over(0, 0, 0));
    }

    private static ScripHollow dearHill() {
        ScripHollow x = Towns.coined(4999);
        x.price(3, 100, true);
        return x;
    }

    private static ScripHollow discounted(int percent, ScripHollow x) {
        x.discount(percent);
        return x;
    }

    private static void discount() {
        due.promise(17, "discount");
        due.gives("the discount before", 20, () -> Towns.of(1), x -> x.discount(7));
        due.gives("0, the least", 0, () -> discounted(0, Towns.of(1)), x -> x.discount(7));
        due.gives("90, the most", 90, () -> discounted(90, Towns.of(1)), x -> x.discount(7));
        due.gives("the same once more", 7, () -> discounted(7, Towns.of(1)), x -> x.discount(7));
        due.gives("0 takes nothing", 100, () -> discounted(0, Towns.paid(100)), x -> x.change(0, 100));
        due.gives("90 leaves a tenth", 10, () -> discounted(90, Towns.paid(100)), x -> x.change(0, 100));
        due.refused("-1 is the first that is refused below", Due.ARGUMENT, () -> Towns.of(1), x -> x.discount(-1));
        due.refused("91 is the first that is refused above", Due.ARGUMENT, () -> Towns.of(1), x -> x.discount(91));
    }

    private static void changeRounding() {
        due.promise(18, "change, rounded down");
        int[][] all = {{20, 1, 0}, {20, 2, 1}, {20, 4, 3}, {20, 5, 4}, {20, 6, 4}, {90, 9, 0}, {90, 10, 1}, {90, 19, 1},
            {90, 20, 2}, {0, 1, 1}, {1, 1, 0}, {1, 100, 99}, {1, 99, 98}, {33, 3, 2}};
        for (int[] one : all) {
            due.gives(one[1] + " at a discount of " + one[0], one[2], () -> discounted(one[0], Towns.paid(100)),
                    x -> x.change(0, one[1]));
        }
        due.gives("for all of two issues together", 7, () -> twoIssues(7, 2), x -> x.change(0, 9));
        due.gives("each time by itself: 1 and 1", 0, () -> Towns.paid(9), x -> x.change(0, 1) + x.change(0, 1));
    }

    private static ScripHollow twoIssues(int first, int next) {
        ScripHollow x = Towns.paid(first);
        Towns.pay(x, next);
        return x;
    }

    private static void change() {
        due.promise(18, "change");
        due.gives("1, the least, is gone though it becomes nothing", 8, () -> Towns.paid(9), x -> {
            x.change(0, 1);
            return x.about(0, 3);
        });
        due.gives("100000, the most, of 100000", 80000, () -> rich(20000), x -> x.change(0, 100000));
        due.gives("100000, the most, of 100005", 5, () -> rich(20001), x -> {
            x.change(0, 100000);
            return x.about(0, 3);
        });
        due.gives("all there is", 7, () -> Towns.paid(9), x -> x.change(0, 9));
        due.gives("all but 1", 1, () -> Towns.paid(9), x -> {
            x.change(0, 8);
            return x.about(0, 3);
        });
        due.gives("the coin is more by it", 12, () -> with(0, 9, 5), x -> {
            x.change(0, 9);
            return x.about(0, 2);
        });
        due.gives("the lowest issue first: 1 of it is left", 1, () -> twoIssues(7, 7), x -> {
            x.change(0, 6);
            return x.scrip(0, 0);
        });
        due.gives("the lowest issue first: just used up, the next stays", 7, () -> twoIssues(7, 7), x -> {
            x.change(0, 7);
            return x.scrip(0, 1);
        });
        due.gives("the lowest issue first: 1 of the next", 6, () -> twoIssues(7, 7), x -> {
            x.change(0, 8);
            return x.scrip(0, 1);
        });
        due.test("the last issue", () -> {
            ScripHollow x = Towns.afterPaydays(39);
            Towns.pay(x, 10);
            due.is("change", x.change(0, 10), 8);
            due.is("scrip", x.scrip(0, 39), 0);
        });
        due.gives("in a strike", 8, () -> Towns.striking(Towns.paid(10)), x -> x.change(0, 10));
        due.gives("the last of ten, not another's", 5, () -> Towns.paid(5, 5, 5, 5, 5, 5, 5, 5, 5, 5), x -> {
            x.change(9, 5);
            return x.about(8, 3);
        });
    }

    /** So much coal at the rate 50. */
    private static ScripHollow rich(int coal) {
        ScripHollow x = Towns.of(1);
        x.tell(0, 50);
        Towns.pay(x, coal);
        return x;
    }

    private static void changeRefused() {
        due.promise(18, "change, refused");
        due.refused("1 more than there is", Due.STATE, () -> Towns.paid(9), x -> x.change(0, 10));
        due.refused("1 more than there is, of two issues", Due.STATE, () -> twoIssues(4, 5), x -> x.change(0, 10));
        due.refused("1, and there is none", Due.STATE, () -> Towns.of(1), x -> x.change(0, 1));
        due.refused("100000 of 99995", Due.STATE, () -> rich(19999), x -> x.change(0, 100000));
        due.refused("coin is no scrip", Due.STATE, () -> with(0, 9, 500), x -> x.change(0, 10));
        due.refused("another's scrip", Due.STATE, () -> Towns.paid(9, 500), x -> x.change(0, 10));
        due.refused("not alive", Due.STATE, () -> Towns.dead(Towns.paid(9), 0), x -> x.change(0, 1));
        due.refused("in a closed mine no scrip is left", Due.STATE, () -> Towns.closed(Towns.paid(9)),
                x -> x.change(0, 1));
        due.refused("0 is the first amount that is refused below", Due.ARGUMENT, () -> Towns.paid(9),
                x -> x.change(0, 0));
        due.refused("100001 is the first amount that is refused above", Due.ARGUMENT, () -> rich(20001),
                x -> x.change(0, 100001));
        due.refused("an amount below 0 gives no scrip", Due.ARGUMENT, () -> Towns.paid(9), x -> x.change(0, -1));
        due.refused("0, and not alive", Due.ARGUMENT, () -> Towns.dead(Towns.paid(9), 0), x -> x.change(0, 0));
        due.refused("100001, and less scrip", Due.ARGUMENT, () -> Towns.paid(9), x -> x.change(0, 100001));
        due.refused("without miners, 0", Due.INDEX, ScripHollow::new, x -> x.change(0, 0));
    }
}
