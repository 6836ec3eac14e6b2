/** Promises 28 to 33: questions. */
public final class QuestionTest {
    private static final Due due = new Due();

    public static void main(String[] args) {
        about();
        has();
        scrip();
        scripAnew();
        baskets();
        books();
        due.end();
    }

    /** Each of what is told of the miner 1 is another number. */
    private static ScripHollow varied() {
        ScripHollow x = Towns.of(3);
        x.kin(1, 2);
        x.edition(5);
        x.tell(1, 11);
        x.buy(1, 3, 4);
        Towns.payCoin(x, 0, 123, 0);
        x.law(ScripHollow.TRUCK, true);
        Towns.pay(x, 0, 46, 0);
        x.law(ScripHollow.TRUCK, false);
        Towns.pay(x, 0, 31, 0);
        x.edition(1);
        x.tell(1, 0);
        Towns.pay(x, 0, 17, 0);
        x.hew(1, 9);
        x.buy(1, 3, 13);
        x.buy(1, 2, 10);
        return x;
    }

    private static void about() {
        due.promise(28, "about");
        ScripHollow x = varied();
        int[] all = {1, 9, 0, 0, 70, 16, 1, 46, 0, 2};
        for (int what = 0; what < 10; what++) {
            due.is("about(1, " + what + ")", x.about(1, what), all[what]);
        }
        Towns.payCoin(x, 0, 20, 0);
        due.is("coin, 13 of 29 being arrears", x.about(1, 2), 13);
        due.is("the latest pay", x.about(1, 8), 13);
        Towns.pay(x, 0, 21, 0);
        due.is("all scrip", x.about(1, 3), 21);
        x.die(1);
        due.is("not alive", x.about(1, 0), 0);
        due.is("no house", x.about(1, 6), 0);
        due.is("OWED", x.about(1, 7), 46);
        due.is("the kin", x.about(1, 9), 2);
        due.refused("about(3, 10)", Due.INDEX, () -> Towns.of(3), t -> t.about(3, 10));
        due.refused("about(-1, 0)", Due.INDEX, () -> Towns.of(3), t -> t.about(-1, 0));
        due.refused("about(0, 10)", Due.ARGUMENT, () -> Towns.of(3), t -> t.about(0, 10));
        due.refused("about(0, -1)", Due.ARGUMENT, () -> Towns.of(3), t -> t.about(0, -1));
    }

    private static void has() {
        due.promise(29, "has");
        ScripHollow x = Towns.coined(1000, 0);
        for (int goods = 0; goods < 4; goods++) {
            x.buy(0, goods, goods + 1);
            x.over(0, goods, 10);
        }
        for (int goods = 0; goods < 4; goods++) {
            due.is("has(0, " + goods + ")", x.has(0, goods), goods + 11);
            due.is("has(1, " + goods + ")", x.has(1, goods), 0);
        }
        due.refused("has(2, 0)", Due.INDEX, () -> Towns.of(2), t -> t.has(2, 0));
        due.refused("has(-1, 0)", Due.INDEX, () -> Towns.of(2), t -> t.has(-1, 0));
        due.refused("has(0, 4)", Due.INDEX, () -> Towns.of(2), t -> t.has(0, 4));
        due.refused("has(0, -1)", Due.INDEX, () -> Towns.of(2), t -> t.has(0, -1));
    }

    private static void scrip() {
        due.promise(30, "scrip");
        ScripHollow x = Towns.of(2);
        for (int k = 0; k < 4; k++) {
            Towns.pay(x, 5 + k, 50 + k);
        }
        for (int k = 0; k < 4; k++) {
            due.is("scrip(0, " + k + ")", x.scrip(0, k), 5 + k);
            due.is("scrip(1, " + k + ")", x.scrip(1, k), 50 + k);
        }
        due.is("scrip(0, 39)", x.scrip(0, 39), 0);
        due.refused("scrip(2, 40)", Due.INDEX, () -> Towns.of(2), t -> t.scrip(2, 40));
        due.refused("scrip(-1, 0)", Due.INDEX, () -> Towns.of(2), t -> t.scrip(-1, 0));
        due.refused("scrip(0, 40)", Due.ARGUMENT, () -> Towns.of(2), t -> t.scrip(0, 40));
        due.refused("scrip(0, -1)", Due.ARGUMENT, () -> Towns.of(2), t -> t.scrip(0, -1));
    }

    private static void scripAnew() {
        due.promise(31, "scripAnew");
        ScripHollow x = Towns.paid(100, 10);
        due.is("paid", x.scripAnew(0), 100);
        x.buy(0, 0, 2);
        due.is("less what was bought for", x.scripAnew(0), 80);
        x.change(0, 5);
        due.is("less what was changed", x.scripAnew(0), 75);
        x.kin(1, 0);
        x.die(1);
        due.is("and what was inherited", x.scripAnew(0), 85);
        due.is("of the dead", x.scripAnew(1), 0);
        Towns.pay(x, 3);
        due.is("and the next pay", x.scripAnew(0), 88);
        for (int k = 0; k < 3; k++) {
            x.payday();
        }
        due.is("less what expired", x.scripAnew(0), 3);
        x.close(1);
        due.is("less what was gone at the close", x.scripAnew(0), 0);
        due.refused("scripAnew(2)", Due.INDEX, () -> Towns.of(2), t -> t.scripAnew(2));
        due.refused("scripAnew(-1)", Due.INDEX, () -> Towns.of(2), t -> t.scripAnew(-1));
    }

    private static void baskets() {
        due.promise(32, "baskets");
        ScripHollow x = Towns.paid(79, 80, 0);
        due.is("79 by 40", x.baskets(0), 1);
        due.is("80 by 40", x.baskets(1), 2);
        due.is("0 by 40", x.baskets(2), 0);
        x.change(1, 80);
        due.is("the pay, not what is left of it", x.baskets(1), 2);
        x.price(3, 9, false);
        due.is("79 by 39", x.baskets(0), 2);
        x.price(2, 100, true);
        due.is("the hill's prices are others", x.baskets(0), 2);
        x.price(0, 1, false);
        x.buy(2, 0, 19);
        x.price(0, 10, false);
        x.price(3, 10, false);
        due.is("by a debt of 19", x.baskets(1), 2);
        Towns.pay(x, 79, 0, 60);
        due.is("a debt of 0 again, and a pay of 41", x.baskets(2), 1);
        due.is("the latest pay", x.baskets(1), 0);
        ScripHollow debtor = Towns.indebted(20);
        debtor.edition(0);
        Towns.pay(debtor, 87);
        due.is("87 by 44, each being raised", debtor.baskets(0), 1);
        Towns.pay(debtor, 88);
        due.is("88 by 44", debtor.baskets(0), 2);
        debtor.close(0);
        due.is("in a closed mine", debtor.baskets(0), 2);
        debtor.die(0);
        due.is("of one dead, without the debt", debtor.baskets(0), 2);
        due.is("coin is a pay too", Towns.coined(120).baskets(0), 3);
        due.refused("baskets(1)", Due.INDEX, () -> Towns.of(1), t -> t.baskets(1));
        due.refused("baskets(-1)", Due.INDEX, () -> Towns.of(1), t -> t.baskets(-1));
    }

    private static void books() {
        due.promise(33, "books");
        ScripHollow x = Towns.of(3);
        Towns.payCoin(x, 1000, 0, 0);
        Towns.pay(x, 100, 200, 400);
        x.buy(0, 0, 3);
        x.change(0, 20);
        for (int k = 0; k < 4; k++) {
            Towns.pay(x, k + 1, 0, 0);
        }
        due.is("what expired", x.books(3), 50 + 200 + 400);
        Towns.pay(x, 500, 600, 700);
        x.die(1);
        x.close(100);
        int[] all = {700 + 10 + 1800, 30, 20, 651, 600, 2 + 3 + 4 + 500 + 700};
        for (int line = 0; line < 6; line++) {
            due.is("books(" + line + ")", x.books(line), all[line]);
        }
        due.refused("books(6)", Due.INDEX, () -> Towns.of(1), t -> t.books(6));
        due.refused("books(-1)", Due.INDEX, () -> Towns.of(1), t -> t.books(-1));
    }
}
