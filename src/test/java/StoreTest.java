/** Promises 11 to 18: store, tavern, hill. */
public final class StoreTest {
    private static final Due due = new Due();

    public static void main(String[] args) {
        price();
        raised();
        limit();
        whyNot();
        buy();
        buyRefused();
        over();
        discount();
        change();
        due.end();
    }

    private static void price() {
        due.promise(11, "price");
        ScripHollow x = Towns.coined(1000);
        for (int goods = 0; goods < 4; goods++) {
            due.is("the store's", x.price(goods, 20 + goods, false), 10);
            due.is("the hill's", x.price(goods, 30 + goods, true), 10);
        }
        for (int goods = 0; goods < 4; goods++) {
            due.is("the store's then", x.price(goods, 1, false), 20 + goods);
            due.is("the hill's then", x.price(goods, 100, true), 30 + goods);
        }
        due.is("at the store", x.raised(0, 2), 1);
        due.is("over the hill", x.over(0, 2, 1), 900);
        due.refused("price(4, 0, true)", Due.INDEX, () -> Towns.of(1), t -> t.price(4, 0, true));
        due.refused("price(-1, 5, false)", Due.INDEX, () -> Towns.of(1), t -> t.price(-1, 5, false));
        due.refused("price(0, 0, false)", Due.ARGUMENT, () -> Towns.of(1), t -> t.price(0, 0, false));
        due.refused("price(3, 101, true)", Due.ARGUMENT, () -> Towns.of(1), t -> t.price(3, 101, true));
    }

    private static void raised() {
        due.promise(12, "raised");
        ScripHollow x = Towns.indebted(19);
        due.is("19 are no 20", x.raised(0, 0), 10);
        x = Towns.indebted(199);
        x.price(0, 1, false);
        due.is("199 are no 200", x.raised(0, 0), 1);
        x = Towns.indebted(200);
        x.price(0, 1, false);
        due.is("1 times 200 by 200", x.raised(0, 0), 2);
        x = Towns.indebted(20);
        due.is("10 times 20 by 200", x.raised(0, 0), 11);
        x.price(1, 100, false);
        due.is("100 times 20 by 200", x.raised(0, 1), 110);
        x.price(1, 29, false);
        due.is("29 times 20 by 200, rounded down", x.raised(0, 1), 31);
        x.price(1, 100, true);
        due.is("the hill's price is another", x.raised(0, 1), 31);
        x.miner();
        due.is("without debt", x.raised(1, 1), 29);
        due.is("of one dead", Towns.dead(Towns.of(1), 0).raised(0, 3), 10);
        due.is("in a strike", Towns.striking(Towns.of(1)).raised(0, 3), 10);
        due.is("in a closed mine", Towns.closed(Towns.of(1)).raised(0, 3), 10);
        due.refused("raised(1, 0)", Due.INDEX, () -> Towns.of(1), t -> t.raised(1, 0));
        due.refused("raised(-1, 0)", Due.INDEX, () -> Towns.of(1), t -> t.raised(-1, 0));
        due.refused("raised(0, 4)", Due.INDEX, () -> Towns.of(1), t -> t.raised(0, 4));
        due.refused("raised(0, -1)", Due.INDEX, () -> Towns.of(1), t -> t.raised(0, -1));
    }

    private static void limit() {
        due.promise(13, "limit");
        ScripHollow x = Towns.of(1);
        due.is("limit(0)", x.limit(0), 200);
        due.is("no credit", x.whyNot(0, 0, 1), 3);
        due.is("limit(1000)", x.limit(1000), 0);
        due.is("credit", x.whyNot(0, 0, 50), 0);
        due.is("limit(9)", x.limit(9), 1000);
        due.refused("limit(-1)", Due.ARGUMENT, () -> Towns.of(1), t -> t.limit(-1));
        due.refused("limit(1001)", Due.ARGUMENT, () -> Towns.of(1), t -> t.limit(1001));
    }

    private static void whyNot() {
        due.promise(14, "whyNot");
        ScripHollow x = Towns.of(1);
        due.is("the debt would be the limit", x.whyNot(0, 0, 20), 0);
        due.is("the debt would be above it", x.whyNot(0, 0, 21), 3);
        x = Towns.paid(70);
        due.is("scrip counts", x.whyNot(0, 0, 27), 0);
        due.is("and is used up", x.whyNot(0, 0, 28), 3);
        x = Towns.coined(30);
        due.is("coin counts", x.whyNot(0, 0, 23), 0);
        due.is("and is used up", x.whyNot(0, 0, 24), 3);
        x = Towns.indebted(100);
        x.limit(50);
        due.is("above the limit", x.whyNot(0, 0, 1), 3);
        x.edition(0);
        Towns.pay(x, 14);
        due.is("above the limit, and 1 more than it is", x.whyNot(0, 0, 1), 3);
        Towns.pay(x, 1);
        due.is("above the limit, but no more than it is", x.whyNot(0, 0, 1), 0);
        due.is("and more than it is", x.whyNot(0, 0, 2), 3);
        due.is("2", Towns.dead(Towns.of(1), 0).whyNot(0, 0, 50), 2);
        due.is("1 in a strike, of one dead", strikeWithDead().whyNot(1, 0, 50), 1);
        due.is("1 in a closed mine, of one dead", Towns.closed(Towns.dead(Towns.of(1), 0)).whyNot(0, 0, 50), 1);
        due.is("1 though one could", Towns.closed(Towns.coined(10)).whyNot(0, 0, 1), 1);
        due.refused("whyNot(1, 4, 0)", Due.INDEX, () -> Towns.of(1), t -> t.whyNot(1, 4, 0));
        due.refused("whyNot(-1, 0, 1)", Due.INDEX, () -> Towns.of(1), t -> t.whyNot(-1, 0, 1));
        due.refused("whyNot(0, 4, 0)", Due.INDEX, () -> Towns.of(1), t -> t.whyNot(0, 4, 0));
        due.refused("whyNot(0, -1, 1)", Due.INDEX, () -> Towns.of(1), t -> t.whyNot(0, -1, 1));
        due.refused("whyNot(0, 0, 0)", Due.ARGUMENT, () -> Towns.of(1), t -> t.whyNot(0, 0, 0));
        due.refused("whyNot(0, 0, 51)", Due.ARGUMENT, () -> Towns.of(1), t -> t.whyNot(0, 0, 51));
    }

    private static ScripHollow strikeWithDead() {
        return Towns.striking(Towns.dead(Towns.of(2), 1));
    }

    private static void buy() {
        due.promise(15, "buy");
        ScripHollow x = Towns.of(2);
        Towns.pay(x, 30, 30);
        Towns.payCoin(x, 25, 0);
        Towns.pay(x, 20, 0);
        due.is("buy(0, 1, 4)", x.buy(0, 1, 4), 0);
        due.is("the lowest issue is used up", x.scrip(0, 0), 0);
        due.is("then the next", x.scrip(0, 2), 10);
        due.is("the coin stands", x.about(0, 2), 25);
        due.is("goods", x.has(0, 1), 4);
        due.is("other goods", x.has(0, 0), 0);
        due.is("what came back", x.books(1), 40);
        due.is("buy(0, 1, 3): then coin", x.buy(0, 1, 3), 0);
        due.is("the scrip is used up", x.about(0, 3), 0);
        due.is("the coin then", x.about(0, 2), 5);
        due.is("buy(0, 3, 2): then debt", x.buy(0, 3, 2), 15);
        due.is("no coin", x.about(0, 2), 0);
        due.is("what came back", x.books(1), 50);
        due.is("goods", x.has(0, 1), 7);
        due.is("goods", x.has(0, 3), 2);
        due.is("the other's scrip", x.about(1, 3), 30);
        due.is("anew", x.scripAnew(0), 0);
        due.is("buy(0, 0, 17): the debt is ahead of buying", x.buy(0, 0, 17), 185);
        due.is("raised then", x.raised(0, 2), 10 + 10 * 185 / 200);
    }

    private static void buyRefused() {
        due.promise(15, "buy, refused");
        due.is("for as much as the limit", Towns.of(1).buy(0, 0, 20), 200);
        ScripHollow x = Towns.indebted(100);
        x.limit(50);
        x.edition(0);
        Towns.pay(x, 15);
        due.is("above the limit, but no more than it is", x.buy(0, 0, 1), 100);
        due.refused("above the limit", Due.STATE, () -> Towns.paid(9), t -> t.buy(0, 0, 21));
        due.refused("not alive", Due.STATE, () -> Towns.dead(Towns.of(1), 0), t -> t.buy(0, 0, 1));
        due.refused("in a strike", Due.STATE, () -> Towns.striking(Towns.paid(90)), t -> t.buy(0, 0, 1));
        due.refused("in a closed mine", Due.STATE, () -> Towns.closed(Towns.coined(90)), t -> t.buy(0, 0, 1));
        due.refused("buy(1, 0, 0)", Due.INDEX, () -> Towns.of(1), t -> t.buy(1, 0, 0));
        due.refused("buy(-1, 0, 1)", Due.INDEX, () -> Towns.of(1), t -> t.buy(-1, 0, 1));
        due.refused("buy(0, 4, 0)", Due.INDEX, () -> Towns.of(1), t -> t.buy(0, 4, 0));
        due.refused("buy(0, -1, 1)", Due.INDEX, () -> Towns.of(1), t -> t.buy(0, -1, 1));
        due.refused("buy(0, 0, 0)", Due.ARGUMENT, () -> Towns.closed(Towns.of(1)), t -> t.buy(0, 0, 0));
        due.refused("buy(0, 0, 51)", Due.ARGUMENT, () -> Towns.closed(Towns.of(1)), t -> t.buy(0, 0, 51));
    }

    private static void over() {
        due.promise(16, "over");
        ScripHollow x = Towns.coined(100, 100);
        Towns.pay(x, 50, 0);
        x.price(2, 25, true);
        due.is("over(0, 2, 3)", x.over(0, 2, 3), 25);
        due.is("goods", x.has(0, 2), 3);
        due.is("scrip is not used", x.about(0, 3), 50);
        due.is("all of the coin", x.over(0, 2, 1), 0);
        due.is("goods", x.has(0, 2), 4);
        due.is("the other's coin", x.about(1, 2), 100);
        due.is("nothing came back at the store", x.books(1), 0);
        due.is("in a strike", Towns.striking(Towns.coined(10)).over(0, 0, 1), 0);
        due.is("in a closed mine", Towns.closed(Towns.coined(10)).over(0, 0, 1), 0);
        due.refused("over(1, 0, 0)", Due.INDEX, () -> Towns.of(1), t -> t.over(1, 0, 0));
        due.refused("over(-1, 0, 1)", Due.INDEX, () -> Towns.of(1), t -> t.over(-1, 0, 1));
        due.refused("over(0, 4, 0)", Due.INDEX, () -> Towns.of(1), t -> t.over(0, 4, 0));
        due.refused("over(0, -1, 1)", Due.INDEX, () -> Towns.of(1), t -> t.over(0, -1, 1));
        due.refused("over(0, 0, 0)", Due.ARGUMENT, () -> Towns.dead(Towns.of(1), 0), t -> t.over(0, 0, 0));
        due.refused("over(0, 0, 51)", Due.ARGUMENT, () -> Towns.of(1), t -> t.over(0, 0, 51));
        due.refused("less coin", Due.STATE, () -> Towns.coined(19), t -> t.over(0, 0, 2));
        due.refused("scrip alone", Due.STATE, () -> Towns.paid(50), t -> t.over(0, 0, 1));
        due.refused("not alive", Due.STATE, () -> Towns.dead(Towns.coined(50), 0), t -> t.over(0, 0, 1));
    }

    private static void discount() {
        due.promise(17, "discount");
        ScripHollow x = Towns.paid(100);
        due.is("discount(90)", x.discount(90), 20);
        due.is("change(0, 19)", x.change(0, 19), 1);
        due.is("discount(0)", x.discount(0), 90);
        due.is("change(0, 19)", x.change(0, 19), 19);
        due.is("discount(20)", x.discount(20), 0);
        due.refused("discount(-1)", Due.ARGUMENT, () -> Towns.of(1), t -> t.discount(-1));
        due.refused("discount(91)", Due.ARGUMENT, () -> Towns.of(1), t -> t.discount(91));
    }

    private static void change() {
        due.promise(18, "change");
        ScripHollow x = Towns.of(2);
        Towns.pay(x, 7, 50);
        Towns.pay(x, 7, 50);
        due.is("change(0, 9): for all together, rounded down", x.change(0, 9), 7);
        due.is("the lowest issue is used up", x.scrip(0, 0), 0);
        due.is("then the next", x.scrip(0, 1), 5);
        due.is("coin", x.about(0, 2), 7);
        due.is("what was changed", x.books(2), 9);
        due.is("change(0, 1)", x.change(0, 1), 0);
        due.is("coin", x.about(0, 2), 7);
        due.is("what was changed", x.books(2), 10);
        due.is("change(0, 4), all", x.change(0, 4), 3);
        due.is("scrip", x.about(0, 3), 0);
        due.is("anew", x.scripAnew(0), 0);
        due.is("the other's scrip", x.about(1, 3), 100);
        due.is("in a strike", Towns.striking(Towns.paid(10)).change(0, 10), 8);
        due.is("the most", rich().change(0, 100000), 80000);
        due.refused("change(1, 0)", Due.INDEX, () -> Towns.paid(9), t -> t.change(1, 0));
        due.refused("change(-1, 1)", Due.INDEX, () -> Towns.paid(9), t -> t.change(-1, 1));
        due.refused("change(0, 0)", Due.ARGUMENT, () -> Towns.dead(Towns.paid(9), 0), t -> t.change(0, 0));
        due.refused("change(0, 100001)", Due.ARGUMENT, () -> Towns.paid(9), t -> t.change(0, 100001));
        due.refused("less scrip", Due.STATE, () -> Towns.paid(9), t -> t.change(0, 10));
        due.refused("coin alone", Due.STATE, () -> Towns.coined(9), t -> t.change(0, 1));
        due.refused("not alive", Due.STATE, () -> Towns.dead(Towns.paid(9), 0), t -> t.change(0, 1));
        due.refused("in a closed mine", Due.STATE, () -> Towns.closed(Towns.paid(9)), t -> t.change(0, 1));
    }

    private static ScripHollow rich() {
        ScripHollow x = Towns.of(1);
        x.tell(0, 50);
        Towns.pay(x, 20000);
        return x;
    }
}
