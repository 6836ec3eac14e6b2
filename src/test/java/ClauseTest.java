import java.util.Arrays;

/**
 * The throws clauses of promises 2 to 33: the first and the last value of each argument that is let through, the first
 * on each side that is refused, each state in which a call is refused, and all of these that can be there at once.
 */
public final class ClauseTest {
    private static final int ALL = 10, GOODS = 4, MOST_BOUGHT = 50;
    private static final Due due = new Due();

    public static void main(String[] args) {
        miners();
        coal();
        paydays();
        house();
        prices();
        store();
        hill();
        tavern();
        laws();
        deaths();
        strikes();
        closing();
        ofMiners();
        books();
        due.end();
    }

    private static ScripHollow full() {
        return Towns.of(ALL);
    }

    private static Clause clause(Clause.Call call, int... arguments) {
        return new Clause(due, ClauseTest::full, call, arguments);
    }

    private static void miners() {
        due.promise(2, "miner");
        new Clause(due, () -> Towns.of(ALL - 1), (x, a) -> x.miner())
                .letsAlways()
                .state("10 miners", x -> x.miner())
                .run();
        due.promise(3, "kin");
        clause((x, a) -> x.kin(a[0], a[1]), 4, 5)
                .letsAlways()
                .letsIn("the miner dead", x -> x.die(4))
                .letsIn("the kin dead", x -> x.die(5))
                .index(0, "miner", ALL)
                .lets(1, "kin NONE", ScripHollow.NONE)
                .lets(1, "kin 0, the first", 0)
                .lets(1, "kin 9, the last", ALL - 1)
                .wrong(Due.INDEX, 1, "kin -2, the first below NONE", -2, true)
                .wrong(Due.INDEX, 1, "kin 10, the first above the last", ALL, true)
                .wrong(Due.INDEX, 1, "kin as low as an int", Integer.MIN_VALUE, false)
                .wrong(Due.INDEX, 1, "kin as high as an int", Integer.MAX_VALUE, false)
                .wrong(Due.ARGUMENT, 1, "themselves as kin", 4, false)
                .run();
    }

    private static void coal() {
        due.promise(4, "dock");
        clause((x, a) -> x.dock(a[0]), 7).argument(0, "percent", 0, 50).letsAlways().run();
        due.promise(6, "hew");
        clause((x, a) -> x.hew(a[0], a[1]), 0, 9)
                .index(0, "miner", ALL)
                .argument(1, "weight", 1, 1000)
                .state("the miner dead", x -> x.die(0))
                .state("a strike", Towns::striking)
                .state("the mine closed", x -> x.close(0))
                .run();
    }

    private static void paydays() {
        due.promise(8, "tell, the rate");
        clause((x, a) -> x.tell(0, a[0]), 10).argument(0, "amount", 1, 50).letsAlways().run();
        for (int kind = ScripHollow.RENT; kind <= ScripHollow.SCHOOL; kind++) {
            int what = kind;
            due.promise(8, "tell, the kind " + kind);
            clause((x, a) -> x.tell(what, a[0]), 10).argument(0, "amount", 0, 100).letsAlways().run();
        }
        due.promise(8, "tell");
        clause((x, a) -> x.tell(a[0], a[1]), 1, 10)
                .argument(0, "what", 0, ScripHollow.SCHOOL)
                .wrong(Due.ARGUMENT, 1, "amount 101", 101, true)
                .run();
        due.promise(9, "payday");
        new Clause(due, () -> Towns.afterPaydays(39), (x, a) -> x.payday())
                .letsInStrike()
                .letsIn("the miner dead", x -> x.die(0))
                .state("40 paydays held", x -> x.payday())
                .state("the mine closed", x -> x.close(0))
                .run();
    }

    private static void house() {
        due.promise(10, "house");
        new Clause(due, () -> Towns.homeless(ALL), (x, a) -> x.house(a[0]), 0)
                .letsInStrike()
                .letsInClosed()
                .index(0, "miner", ALL)
                .state("a house", x -> x.house(0))
                .state("arrears", ClauseTest::inheritArrears)
                .state("the miner dead", x -> x.die(0))
                .run();
    }

    /** The miner 1 dies with arrears of 1, which the miner 0 gets; other arrears are paid. */
    private static void inheritArrears(ScripHollow x) {
        x.house(1);
        x.tell(ScripHollow.RENT, 1);
        Towns.pay(x, 1, 0);
        x.tell(ScripHollow.RENT, 0);
        x.kin(1, 0);
        x.die(1);
    }

    private static void prices() {
        for (boolean isHill : new boolean[] {false, true}) {
            due.promise(11, isHill ? "price, over the hill" : "price, at the store");
            clause((x, a) -> x.price(a[0], a[1], isHill), 2, 30)
                    .index(0, "goods", GOODS)
                    .argument(1, "price", 1, 100)
                    .letsAlways()
                    .run();
        }
        due.promise(12, "raised");
        clause((x, a) -> x.raised(a[0], a[1]), 0, 0).index(0, "miner", ALL).index(1, "goods", GOODS).letsAlways().run();
        due.promise(13, "limit");
        clause((x, a) -> x.limit(a[0]), 7).argument(0, "limit", 0, 1000).letsAlways().run();
    }

    private static void store() {
        due.promise(14, "whyNot");
        clause((x, a) -> x.whyNot(a[0], a[1], a[2]), 0, 0, 1)
                .letsAlways()
                .index(0, "miner", ALL)
                .index(1, "goods", GOODS)
                .argument(2, "many", 1, MOST_BOUGHT)
                .run();
        due.promise(15, "buy");
        new Clause(due, ClauseTest::allOnCredit, (x, a) -> x.buy(a[0], a[1], a[2]), 0, 0, 1)
                .index(0, "miner", ALL)
                .index(1, "goods", GOODS)
                .argument(2, "many", 1, MOST_BOUGHT)
                .state("the debt above the limit then", x -> x.limit(9))
                .state("the miner dead", x -> x.die(0))
                .state("a strike", Towns::striking)
                .state("the mine closed", x -> x.close(0))
                .run();
    }

    private static ScripHollow allOnCredit() {
        ScripHollow x = full();
        x.limit(1000);
        return x;
    }

    private static void hill() {
        due.promise(16, "over");
        new Clause(due, ClauseTest::allWithCoin, (x, a) -> x.over(a[0], a[1], a[2]), 0, 0, 10)
                .letsInStrike()
                .letsInClosed()
                .index(0, "miner", ALL)
                .index(1, "goods", GOODS)
                .argument(2, "many", 1, MOST_BOUGHT)
                .state("less coin than it costs", x -> x.price(0, 51, true))
                .state("the miner dead", x -> x.die(0))
                .run();
        due.promise(17, "discount");
        clause((x, a) -> x.discount(a[0]), 7).argument(0, "percent", 0, 90).letsAlways().run();
    }

    private static ScripHollow allWithCoin() {
        return Towns.coined(500, 500, 500, 500, 500, 500, 500, 500, 500, 500);
    }

    private static void tavern() {
        due.promise(18, "change");
        new Clause(due, ClauseTest::allRich, (x, a) -> x.change(a[0], a[1]), 0, 20)
                .letsInStrike()
                .index(0, "miner", ALL)
                .argument(1, "amount", 1, 100000)
                .state("less scrip", x -> x.change(0, 99981))
                .state("the miner dead", x -> x.die(0))
                .run();
    }

    /** Each has 100000 of scrip. */
    private static ScripHollow allRich() {
        ScripHollow x = full();
        x.tell(0, 50);
        int[] coal = new int[ALL];
        Arrays.fill(coal, 10000);
        Towns.pay(x, coal);
        Towns.pay(x, coal);
        return x;
    }

    private static void laws() {
        for (boolean is : new boolean[] {false, true}) {
            due.promise(19, is ? "law, in force" : "law, not in force");
            clause((x, a) -> x.law(a[0], is), 0).index(0, "law", 3).letsAlways().run();
        }
    }

    private static void deaths() {
        due.promise(22, "die");
        clause((x, a) -> x.die(a[0]), 0)
                .letsInStrike()
                .letsInClosed()
                .index(0, "miner", ALL)
                .state("the miner dead", x -> x.die(0))
                .run();
        due.promise(23, "vote");
        clause((x, a) -> x.vote(a[0], true), 0).index(0, "miner", ALL).letsAlways().run();
    }

    private static void strikes() {
        due.promise(24, "strike");
        new Clause(due, () -> Towns.votes(6, 4), (x, a) -> x.strike())
                .state("no more for it than not", x -> x.vote(0, false))
                .state("the mine closed", x -> x.close(0))
                .run();
        due.promise(25, "give");
        clause((x, a) -> x.give(a[0]), 7).argument(0, "amount", 1, 1000).letsAlways().run();
        due.promise(26, "soup");
        new Clause(due, () -> Towns.striking(full()), (x, a) -> x.soup())
                .state("the strike ended", x -> x.strike())
                .state("the mine closed", x -> x.close(0))
                .run();
    }

    private static void closing() {
        due.promise(27, "close");
        clause((x, a) -> x.close(a[0]), 7)
                .letsInStrike()
                .argument(0, "money", 0, 100000)
                .state("the mine closed", x -> x.close(7))
                .run();
    }

    private static void ofMiners() {
        due.promise(28, "about");
        clause((x, a) -> x.about(a[0], a[1]), 0, 0).index(0, "miner", ALL).argument(1, "what", 0, 9).letsAlways().run();
        due.promise(29, "has");
        clause((x, a) -> x.has(a[0], a[1]), 0, 0).index(0, "miner", ALL).index(1, "goods", GOODS).letsAlways().run();
        due.promise(30, "scrip");
        clause((x, a) -> x.scrip(a[0], a[1]), 0, 0)
                .index(0, "miner", ALL)
                .argument(1, "issue", 0, 39)
                .letsAlways()
                .run();
        due.promise(31, "scripAnew");
        clause((x, a) -> x.scripAnew(a[0]), 0).index(0, "miner", ALL).letsAlways().run();
        due.promise(32, "baskets");
        clause((x, a) -> x.baskets(a[0]), 0).index(0, "miner", ALL).letsAlways().run();
    }

    private static void books() {
        due.promise(33, "books");
        clause((x, a) -> x.books(a[0]), 0).index(0, "line", 6).letsAlways().run();
    }
}
