/** Promises 28 to 33 at their edges, case by case: questions. */
public final class QuestionEdgeTest {
    private static final Due due = new Due();

    public static void main(String[] args) {
        about();
        aboutRefused();
        has();
        scrip();
        scripAnew();
        baskets();
        basketsNow();
        booksPaid();
        booksBack();
        booksGone();
        books();
        due.end();
    }

    private static void about() {
        due.promise(28, "about");
        String[] names = {"alive", "coal", "coin", "all scrip", "debt", "arrears", "a house", "owed", "the latest pay",
            "the kin"};
        long[] first = {1, 99, 11, 28, 52, 7, 1, 0, 15, 1};
        long[] last = {1, 0, 12, 30, 40, 7, 1, 0, 16, -1};
        for (int what = 0; what < 10; what++) {
            int w = what;
            due.gives(what + ", " + names[what] + ", of the first", first[what], Towns::estate, x -> x.about(0, w));
            due.gives(what + ", " + names[what] + ", of the last", last[what], Towns::estate, x -> x.about(1, w));
            due.changesNothing(what + ", " + names[what] + ", is a question", Towns::estate, x -> x.about(0, w));
        }
        due.gives("0, dead", 0, () -> Towns.dead(Towns.of(10), 9), x -> x.about(9, 0));
        due.gives("0, without a house", 1, () -> Towns.homeless(1), x -> x.about(0, 0));
        due.gives("0, beside one dead", 1, () -> Towns.dead(Towns.of(10), 9), x -> x.about(8, 0));
        due.gives("3, of the first and the last issue that stand", 36 + 37 + 38 + 39, () -> allIssues(),
                x -> x.about(0, 3));
        due.gives("6, lost", 0, () -> Towns.homeless(1), x -> x.about(0, 6));
        due.gives("7, owed so far", 9, QuestionEdgeTest::owing, x -> x.about(0, 7));
        due.gives("8, 0 at first", 0, () -> Towns.of(1), x -> x.about(0, 8));
        due.gives("8, the latest, not the one before", 7, () -> paidTwice(9, 7), x -> x.about(0, 8));
        due.gives("8, a latest of 0", 0, () -> paidTwice(9, 0), x -> x.about(0, 8));
        due.gives("8, in coin", 9, () -> Towns.coined(9), x -> x.about(0, 8));
        due.gives("8, behind deductions", 89, () -> deducted(), x -> x.about(0, 8));
        due.gives("9, the first as kin", 0, () -> kinOfFirst(), x -> x.about(1, 9));
        due.gives("9, NONE without one", ScripHollow.NONE, () -> Towns.of(1), x -> x.about(0, 9));
    }

    /** At each of 40 paydays its number is paid. */
    private static ScripHollow allIssues() {
        ScripHollow x = Towns.of(1);
        for (int k = 0; k < 40; k++) {
            Towns.pay(x, k);
        }
        return x;
    }

    private static ScripHollow owing() {
        ScripHollow x = Towns.of(1);
        x.law(ScripHollow.TRUCK, true);
        Towns.pay(x, 9);
        return x;
    }

    private static ScripHollow paidTwice(int first, int next) {
        ScripHollow x = Towns.paid(first);
        Towns.pay(x, next);
        return x;
    }

    private static ScripHollow deducted() {
        ScripHollow x = Towns.of(1);
        x.tell(ScripHollow.DOCTOR, 11);
        Towns.pay(x, 100);
        return x;
    }

    private static ScripHollow kinOfFirst() {
        ScripHollow x = Towns.of(2);
        x.kin(1, 0);
        return x;
    }

    private static void aboutRefused() {
        due.promise(28, "about, refused");
        due.refused("-1 is the first that is refused below", Due.ARGUMENT, Towns::estate, x -> x.about(0, -1));
        due.refused("10 is the first that is refused above", Due.ARGUMENT, Towns::estate, x -> x.about(0, 10));
        due.refused("2, the first above the last miner", Due.INDEX, Towns::estate, x -> x.about(2, 0));
        due.refused("no miner and out of range: the miner comes first", Due.INDEX, Towns::estate, x -> x.about(2, 10));
        due.refused("without miners", Due.INDEX, ScripHollow::new, x -> x.about(0, 0));
        due.refused("10 of one dead", Due.ARGUMENT, () -> Towns.dead(Towns.of(1), 0), x -> x.about(0, 10));
    }

    private static void has() {
        due.promise(29, "has");
        due.gives("0, the first of the goods", 2, Towns::estate, x -> x.has(0, 0));
        due.gives("1, of which there are none", 0, Towns::estate, x -> x.has(0, 1));
        due.gives("3, the last of the goods", 5, QuestionEdgeTest::lastGoods, x -> x.has(9, 3));
        due.gives("none of another miner", 0, QuestionEdgeTest::lastGoods, x -> x.has(0, 3) + x.has(8, 3));
        due.gives("from the store and from over the hill together", 2 + 3, QuestionEdgeTest::fromBoth,
                x -> x.has(0, 1));
        due.gives("none of the dead", 0, () -> Towns.dead(Towns.estate(), 0), x -> x.has(0, 2));
        due.gives("they stay in a closed mine", 3, () -> Towns.closed(Towns.estate()), x -> x.has(0, 2));
        due.gives("so many at the 300th time", 15000, () -> Towns.coined(15000), x -> {
            x.price(0, 1, false);
            for (int k = 0; k < 300; k++) {
                x.buy(0, 0, 50);
            }
            return x.has(0, 0);
        });
        due.refused("4, the first above the last of the goods", Due.INDEX, Towns::estate, x -> x.has(0, 4));
        due.refused("-1, the first below", Due.INDEX, Towns::estate, x -> x.has(0, -1));
        due.refused("neither the miner nor the goods", Due.INDEX, Towns::estate, x -> x.has(2, 4));
        due.refused("without miners", Due.INDEX, ScripHollow::new, x -> x.has(0, 0));
        due.changesNothing("it is a question", Towns::estate, x -> x.has(0, 2));
    }

    private static ScripHollow lastGoods() {
        ScripHollow x = Towns.of(10);
        x.buy(9, 3, 5);
        return x;
    }

    private static ScripHollow fromBoth() {
        ScripHollow x = Towns.coined(100);
        x.buy(0, 1, 2);
        x.over(0, 1, 3);
        return x;
    }

    private static void scrip() {
        due.promise(30, "scrip");
        due.gives("0, the first issue", 9, () -> Towns.paid(9), x -> x.scrip(0, 0));
        due.gives("39, the last issue", 39, () -> allIssues(), x -> x.scrip(0, 39));
        due.gives("39, not paid so far", 0, () -> Towns.paid(9), x -> x.scrip(0, 39));
        due.gives("the next issue, not paid so far", 0, () -> Towns.paid(9), x -> x.scrip(0, 1));
        due.gives("an issue that has expired", 0, () -> allIssues(), x -> x.scrip(0, 35));
        due.gives("the last of ten", 512, QuestionEdgeTest::paidTen, x -> x.scrip(9, 0));
        due.gives("the issue at which coin was paid", 0, () -> Towns.coined(9), x -> x.scrip(0, 0));
        due.gives("of the dead", 0, () -> Towns.dead(Towns.estate(), 0), x -> x.scrip(0, 1));
        due.refused("-1 is the first issue that is refused below", Due.ARGUMENT, Towns::estate, x -> x.scrip(0, -1));
        due.refused("40 is the first issue that is refused above", Due.ARGUMENT, Towns::estate, x -> x.scrip(0, 40));
        due.refused("40, behind the last payday", Due.ARGUMENT, () -> allIssues(), x -> x.scrip(0, 40));
        due.refused("no miner and no issue: the miner comes first", Due.INDEX, Towns::estate, x -> x.scrip(2, 40));
        due.refused("without miners", Due.INDEX, ScripHollow::new, x -> x.scrip(0, 0));
        due.changesNothing("it is a question", Towns::estate, x -> x.scrip(0, 1));
    }

    private static ScripHollow paidTen() {
        return Towns.paid(1, 2, 4, 8, 16, 32, 64, 128, 256, 512);
    }

    private static long anew(ScripHollow x, Due.Call call) {
        call.on(x);
        return x.scripAnew(0);
    }

    private static void scripAnew() {
        due.promise(31, "scripAnew");
        due.gives("nothing came", 0, () -> Towns.of(1), x -> x.scripAnew(0));
        due.gives("it was paid", 9, () -> Towns.paid(9), x -> x.scripAnew(0));
        due.gives("it was paid twice", 16, () -> paidTwice(9, 7), x -> x.scripAnew(0));
        due.gives("coin was paid", 0, () -> Towns.coined(9), x -> x.scripAnew(0));
        due.gives("the last of ten", 512, QuestionEdgeTest::paidTen, x -> x.scripAnew(9));
        due.gives("all went at the store", 0, () -> Towns.paid(30), x -> anew(x, t -> t.buy(0, 0, 3)));
        due.gives("all went at the store, and debt came", 0, () -> Towns.paid(29), x -> anew(x, t -> t.buy(0, 0, 3)));
        due.gives("part went at the store", 1, () -> Towns.paid(31), x -> anew(x, t -> t.buy(0, 0, 3)));
        due.gives("part went at the tavern", 1, () -> Towns.paid(9), x -> anew(x, t -> t.change(0, 8)));
        due.gives("all went at the tavern", 0, () -> Towns.paid(9), x -> anew(x, t -> t.change(0, 9)));
        due.gives("over the hill none went", 28, Towns::estate, x -> anew(x, t -> t.over(0, 0, 1)));
        due.gives("the first of two issues expired", 7, () -> paidTwice(9, 7), x -> anew(x, t -> {
            t.payday();
            t.payday();
            t.payday();
        }));
        due.gives("both issues expired", 0, () -> paidTwice(9, 7), x -> anew(x, t -> {
            for (int k = 0; k < 4; k++) {
                t.payday();
            }
        }));
        due.gives("it went to an heir", 0, Towns::estate, x -> anew(x, t -> t.die(0)));
        due.gives("it came to an heir", 58, () -> Towns.dead(Towns.estate(), 0), x -> x.scripAnew(1));
        due.gives("it went without an heir", 0, () -> Towns.dead(Towns.paid(9), 0), x -> x.scripAnew(0));
        due.gives("it became coin at the close", 0, () -> Towns.paid(9), x -> anew(x, t -> t.close(9)));
        due.gives("it became nothing at the close", 0, () -> Towns.paid(9), x -> anew(x, t -> t.close(0)));
        due.gives("so it is at the end of 40 paydays", 36 + 37 + 38 + 39, () -> allIssues(), x -> x.scripAnew(0));
        due.refused("2, the first above the last miner", Due.INDEX, Towns::estate, x -> x.scripAnew(2));
        due.refused("without miners", Due.INDEX, ScripHollow::new, x -> x.scripAnew(0));
        due.changesNothing("it is a question", Towns::estate, x -> x.scripAnew(0));
    }

    /** The latest pay, the price of each of the goods, the debt: how many baskets. */
    private static void basketsOf(int pay, int price, int debt, int want) {
        due.gives("a pay of " + pay + ", prices of " + price + ", a debt of " + debt, want, () -> {
            ScripHollow x = Towns.indebted(debt);
            x.edition(0);
            for (int goods = 0; goods < 4; goods++) {
                x.price(goods, price, false);
            }
            Towns.pay(x, pay);
            return x;
        }, x -> x.baskets(0));
    }

    private static void baskets() {
        due.promise(32, "baskets");
        basketsOf(0, 10, 0, 0);
        basketsOf(39, 10, 0, 0);
        basketsOf(40, 10, 0, 1);
        basketsOf(41, 10, 0, 1);
        basketsOf(79, 10, 0, 1);
        basketsOf(80, 10, 0, 2);
        basketsOf(3, 1, 0, 0);
        basketsOf(4, 1, 0, 1);
        basketsOf(399, 100, 0, 0);
        basketsOf(400, 100, 0, 1);
        basketsOf(40, 10, 19, 1);
        basketsOf(43, 10, 20, 0);
        basketsOf(44, 10, 20, 1);
        basketsOf(7, 1, 200, 0);
        basketsOf(8, 1, 200, 1);
        due.gives("without a payday", 0, () -> Towns.of(1), x -> x.baskets(0));
        due.gives("each of the goods at its own price: 10 is enough", 1, () -> pricedApart(10), x -> x.baskets(0));
        due.gives("each of the goods at its own price: 9 is not", 0, () -> pricedApart(9), x -> x.baskets(0));
        due.gives("the last of ten", 12, QuestionEdgeTest::paidTen, x -> x.baskets(9));
        due.gives("the first of ten", 0, QuestionEdgeTest::paidTen, x -> x.baskets(0));
    }

    private static ScripHollow pricedApart(int pay) {
        ScripHollow x = Towns.paid(pay);
        for (int goods = 0; goods < 4; goods++) {
            x.price(goods, goods + 1, false);
        }
        return x;
    }

    private static void basketsNow() {
        due.promise(32, "baskets, now");
        due.gives("the latest pay, not the one before", 1, () -> paidTwice(80, 40), x -> x.baskets(0));
        due.gives("the latest pay, also 0", 0, () -> paidTwice(80, 0), x -> x.baskets(0));
        due.gives("the latest pay in coin", 2, () -> Towns.coined(80), x -> x.baskets(0));
        due.gives("the pay, though it is spent", 2, () -> Towns.paid(80), x -> {
            x.change(0, 80);
            return x.baskets(0);
        });
        due.gives("the prices of now", 1, () -> Towns.paid(80), x -> {
            x.price(3, 11, false);
            return x.baskets(0);
        });
        due.gives("not the prices over the hill", 2, () -> Towns.paid(80), x -> {
            x.price(3, 100, true);
            return x.baskets(0);
        });
        due.gives("the debt of now", 1, () -> Towns.paid(80), x -> {
            x.buy(0, 0, 10);
            return x.baskets(0);
        });
        due.gives("whatever the store refuses", 2, () -> Towns.striking(Towns.paid(80)), x -> x.baskets(0));
        due.gives("in a closed mine", 2, () -> Towns.closed(Towns.paid(80)), x -> x.baskets(0));
        due.gives("of one dead, whose debt is gone", 2, QuestionEdgeTest::deadInDebt, x -> x.baskets(0));
        due.refused("2, the first above the last miner", Due.INDEX, Towns::estate, x -> x.baskets(2));
        due.refused("without miners", Due.INDEX, ScripHollow::new, x -> x.baskets(0));
        due.changesNothing("it is a question", Towns::estate, x -> x.baskets(0));
    }

    private static ScripHollow deadInDebt() {
        ScripHollow x = Towns.paid(80);
        x.buy(0, 0, 10);
        x.die(0);
        return x;
    }

    private static long line(int line, ScripHollow x, Due.Call call) {
        call.on(x);
        return x.books(line);
    }

    private static void booksPaid() {
        due.promise(33, "books, 0");
        due.gives("what was paid at one payday to all", 1023, QuestionEdgeTest::paidTen, x -> x.books(0));
        due.gives("what was paid at two paydays", 16, () -> paidTwice(9, 7), x -> x.books(0));
        due.gives("coin is no scrip", 0, () -> Towns.coined(9), x -> x.books(0));
        due.gives("a pay of 0", 0, () -> Towns.paid(0), x -> x.books(0));
        due.gives("what is inherited is not paid again", 58, () -> Towns.dead(Towns.estate(), 0), x -> x.books(0));
        due.gives("what is spent was paid", 9, () -> Towns.paid(9), x -> line(0, x, t -> t.change(0, 9)));
        due.gives("at 40 paydays", 780, () -> allIssues(), x -> x.books(0));
    }

    private static void booksBack() {
        due.promise(33, "books, 1 and 2");
        due.gives("1, all of it in scrip", 30, () -> Towns.paid(31), x -> line(1, x, t -> t.buy(0, 0, 3)));
        due.gives("1, part of it in scrip, the rest in debt", 29, () -> Towns.paid(29),
                x -> line(1, x, t -> t.buy(0, 0, 3)));
        due.gives("1, coin is no scrip", 0, () -> Towns.coined(31), x -> line(1, x, t -> t.buy(0, 0, 3)));
        due.gives("1, debt is no scrip", 0, () -> Towns.of(1), x -> line(1, x, t -> t.buy(0, 0, 3)));
        due.gives("1, what is taken off a wage is no scrip", 0, () -> Towns.indebted(30),
                x -> line(1, x, t -> Towns.pay(t, 50)));
        due.gives("1, over the hill", 0, Towns::estate, x -> line(1, x, t -> t.over(0, 0, 1)));
        due.gives("1, at the tavern", 0, Towns::estate, x -> line(1, x, t -> t.change(0, 9)));
        due.gives("1, of all miners", 2, QuestionEdgeTest::twoForOne, x -> x.books(1));
        due.gives("2, what was changed, not what it became", 10, () -> Towns.paid(31),
                x -> line(2, x, t -> t.change(0, 10)));
        due.gives("2, what became nothing", 1, () -> Towns.paid(31), x -> line(2, x, t -> t.change(0, 1)));
        due.gives("2, twice", 11, () -> Towns.paid(31), x -> line(2, x, t -> {
            t.change(0, 10);
            t.change(0, 1);
        }));
        due.gives("2, at the store", 0, Towns::estate, x -> line(2, x, t -> t.buy(0, 0, 1)));
        due.gives("2, at the close", 0, Towns::estate, x -> line(2, x, t -> t.close(100)));
    }

    /** Two miners buy for 1 each. */
    private static ScripHollow twoForOne() {
        ScripHollow x = Towns.paid(5, 5);
        x.price(0, 1, false);
        x.buy(0, 0, 1);
        x.buy(1, 0, 1);
        return x;
    }

    private static void booksGone() {
        due.promise(33, "books, 3 to 5");
        due.gives("3, all that expired so far", 595 + 35, () -> allIssues(), x -> x.books(3));
        due.gives("3, nothing so far", 0, () -> paidTwice(9, 7), x -> x.books(3));
        due.gives("3, of all miners", 1023, QuestionEdgeTest::paidTen, x -> line(3, x, t -> {
            for (int k = 0; k < 4; k++) {
                t.payday();
            }
        }));
        due.gives("3, by a death nothing expires", 0, Towns::estate, x -> line(3, x, t -> t.die(1)));
        due.gives("4, without an heir", 30, Towns::estate, x -> line(4, x, t -> t.die(1)));
        due.gives("4, with an heir", 0, Towns::estate, x -> line(4, x, t -> t.die(0)));
        due.gives("4, coin is no scrip", 0, () -> Towns.coined(9), x -> line(4, x, t -> t.die(0)));
        due.gives("4, at the close", 0, Towns::estate, x -> line(4, x, t -> t.close(100)));
        due.gives("5, all of it became coin", 58, Towns::estate, x -> line(5, x, t -> t.close(58)));
        due.gives("5, nothing of it became coin", 58, Towns::estate, x -> line(5, x, t -> t.close(0)));
        due.gives("5, some of it became coin", 58, Towns::estate, x -> line(5, x, t -> t.close(40)));
        due.gives("5, nothing was there", 0, () -> Towns.of(1), x -> line(5, x, t -> t.close(40)));
        due.gives("5, by a death", 0, Towns::estate, x -> line(5, x, t -> t.die(1)));
    }

    private static void books() {
        due.promise(33, "books");
        due.test("what was paid is what all have, and what went", () -> {
            ScripHollow x = allRoutes();
            long went = 0;
            for (int line = 1; line <= 5; line++) {
                due.is("the line " + line + " is above 0", Due.bit(x.books(line) > 0), 1);
                went += x.books(line);
            }
            due.is("the line 0", x.books(0), went);
        });
        due.test("before the close, too", () -> {
            ScripHollow x = untilClose();
            long there = x.about(0, 3) + x.about(1, 3) + x.about(2, 3);
            due.is("the line 0", x.books(0), there + x.books(1) + x.books(2) + x.books(3) + x.books(4));
        });
        due.refused("-1, the first below", Due.INDEX, Towns::estate, x -> x.books(-1));
        due.refused("6, the first above the last line", Due.INDEX, Towns::estate, x -> x.books(6));
        for (int line = 0; line < 6; line++) {
            int l = line;
            due.changesNothing(line + " is a question", () -> allRoutes(), x -> x.books(l));
        }
    }

    private static ScripHollow untilClose() {
        ScripHollow x = Towns.of(3);
        x.kin(0, 1);
        for (int k = 0; k < 6; k++) {
            Towns.pay(x, 41, 52, 63);
        }
        x.buy(0, 0, 5);
        x.change(1, 33);
        x.die(2);
        x.die(0);
        return x;
    }

    private static ScripHollow allRoutes() {
        ScripHollow x = untilClose();
        x.close(100);
        return x;
    }
}
