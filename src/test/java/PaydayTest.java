/** Promises 7 to 10: paydays. */
public final class PaydayTest {
    private static final Due due = new Due();

    public static void main(String[] args) {
        edition();
        editionsOrder();
        tell();
        payday();
        deductions();
        arrears();
        eviction();
        expiry();
        paydayRefused();
        house();
        due.end();
    }

    private static void edition() {
        due.promise(7, "edition");
        ScripHollow x = new ScripHollow();
        int[] rows = {54321, 5, 1, 51, 0, 3142, 312, 12345};
        int before = 12345;
        for (int row : rows) {
            due.is("edition(" + row + ")", x.edition(row), before);
            before = row;
        }
        int[] wrong = {-1, -12345, 6, 9, 10, 11, 102, 60, 61, 16, 12346, 54322, 11111, 123451, 123456,
                1234512345, Integer.MAX_VALUE, Integer.MIN_VALUE};
        for (int row : wrong) {
            due.refused("edition(" + row + ")", Due.ARGUMENT, () -> Towns.of(1), t -> t.edition(row));
        }
    }

    /** A wage of 50, where 30 are due for each of two kinds: who comes first shows. */
    private static void editionsOrder() {
        due.promise(7, "edition, the order");
        due.is("the first digit is first: rent 30, doctor 20", arrearsBehind(12), 0);
        due.is("doctor 30, rent 20", arrearsBehind(21), 10);
        due.is("three ahead of the rent", arrearsBehind(2341), 30);
        due.is("the rent is not in it", arrearsBehind(2), 30);
        due.is("no kind at all", arrearsBehind(0), 30);
        due.is("rent alone", arrearsBehind(1), 0);
        due.is("rent in the last of five places", arrearsBehind(52341), 30);
    }

    private static int arrearsBehind(int row) {
        ScripHollow x = Towns.of(1);
        for (int kind = 1; kind <= 4; kind++) {
            x.tell(kind, 30);
        }
        x.edition(row);
        Towns.pay(x, 50);
        return x.about(0, 5);
    }

    private static void tell() {
        due.promise(8, "tell");
        ScripHollow x = new ScripHollow();
        due.is("tell(0, 50)", x.tell(0, 50), 10);
        due.is("tell(0, 1)", x.tell(0, 1), 50);
        int[] first = {0, 20, 0, 0, 0};
        for (int kind = 1; kind <= 4; kind++) {
            due.is("tell(" + kind + ", 100)", x.tell(kind, 100), first[kind]);
            due.is("tell(" + kind + ", 0)", x.tell(kind, 0), 100);
            due.is("tell(" + kind + ", " + kind + ")", x.tell(kind, kind), 0);
        }
        for (int kind = 1; kind <= 4; kind++) {
            due.is("tell, each its own", x.tell(kind, 0), kind);
        }
        int[][] wrong = {{-1, 10}, {5, 10}, {0, 0}, {0, 51}, {0, -1}, {1, -1}, {1, 101}, {2, 101}, {3, -1}, {4, 101}};
        for (int[] w : wrong) {
            due.refused("tell(" + w[0] + ", " + w[1] + ")", Due.ARGUMENT, () -> Towns.of(1), t -> t.tell(w[0], w[1]));
        }
    }

    private static void payday() {
        due.promise(9, "payday");
        ScripHollow x = Towns.of(3);
        x.tell(0, 7);
        x.hew(0, 9);
        x.hew(1, 15);
        due.is("payday(): 9 and 15 times 7, a tenth, rounded down each", x.payday(), 16);
        due.is("the pay of 0", x.about(0, 8), 6);
        due.is("the pay of 1", x.about(1, 8), 10);
        due.is("the pay of 2", x.about(2, 8), 0);
        due.is("the coal is gone", x.about(1, 1), 0);
        due.is("it is scrip of the issue 0", x.scrip(1, 0), 10);
        due.is("and no coin", x.about(1, 2), 0);
        x.hew(2, 10);
        x.die(1);
        due.is("the next", x.payday(), 7);
        due.is("the latest pay of 0", x.about(0, 8), 0);
        due.is("the latest pay of one dead", x.about(1, 8), 10);
        due.is("the issue 1", x.scrip(2, 1), 7);
        due.is("the issue 0 stands", x.scrip(0, 0), 6);
        ScripHollow none = new ScripHollow();
        due.is("without miners", none.payday(), 0);
        due.is("in a strike", Towns.striking(Towns.of(1)).payday(), 0);
        ScripHollow coin = Towns.of(2);
        due.is("coin counts too", Towns.payCoin(coin, 30, 40), 70);
        Towns.payCoin(coin, 5, 0);
        due.is("besides the coin before", coin.about(0, 2), 35);
    }

    private static void deductions() {
        due.promise(9, "payday, deductions");
        ScripHollow x = Towns.indebted(40);
        x.miner();
        x.tell(1, 10);
        x.tell(2, 5);
        x.tell(3, 6);
        x.tell(4, 7);
        due.is("payday()", Towns.pay(x, 50, 100), 72);
        due.is("no arrears", x.about(0, 5), 0);
        due.is("the store took what was left", x.about(0, 4), 18);
        due.is("pay of 0", x.about(0, 8), 0);
        due.is("pay of 1", x.about(1, 8), 72);
        due.is("the fee that was not taken is not due later", Towns.pay(x, 13, 0), 0);
        due.is("then", Towns.pay(x, 50, 40), 4 + 2);
        due.is("the debt is paid", x.about(0, 4), 0);
        due.is("nothing came back at the store", x.books(1), 0);
        ScripHollow later = Towns.indebted(40);
        Towns.pay(later, 15);
        later.edition(1);
        due.is("the store is not in the edition", Towns.pay(later, 15), 15);
        due.is("what it took before is not taken again", later.about(0, 4), 25);
    }

    private static void arrears() {
        due.promise(9, "payday, arrears");
        ScripHollow x = Towns.of(2);
        x.tell(1, 20);
        Towns.pay(x, 15, 0);
        due.is("20 less 15", x.about(0, 5), 5);
        due.is("20 less 0", x.about(1, 5), 20);
        due.is("arrears and rent together", Towns.pay(x, 30, 40), 5);
        due.is("none", x.about(0, 5), 0);
        due.is("none", x.about(1, 5), 0);
        x.edition(5);
        due.is("the rent is not in the edition", Towns.pay(x, 30, 0), 30);
        due.is("20 due", x.about(0, 5), 20);
        x.tell(1, 3);
        Towns.pay(x, 0, 0);
        due.is("the rent as it is then", x.about(0, 5), 23);
        ScripHollow dead = Towns.of(1);
        dead.tell(1, 20);
        dead.die(0);
        dead.payday();
        due.is("none for the dead", dead.about(0, 5), 0);
    }

    private static void eviction() {
        due.promise(9, "payday, evictions");
        ScripHollow x = Towns.of(1);
        x.tell(1, 20);
        for (int k = 0; k < 3; k++) {
            x.payday();
        }
        due.is("arrears of 3 rents", x.about(0, 5), 60);
        due.is("the house stays", x.about(0, 6), 1);
        Towns.pay(x, 19);
        due.is("1 above", x.about(0, 5), 61);
        due.is("the house is lost", x.about(0, 6), 0);
        x.payday();
        due.is("no rent without a house, the arrears stand", x.about(0, 5), 61);
        due.is("and are taken", Towns.pay(x, 70), 9);
        ScripHollow free = Towns.of(1);
        free.tell(1, 20);
        free.payday();
        free.tell(1, 0);
        free.payday();
        due.is("a rent of 0: arrears of 20", free.about(0, 5), 20);
        due.is("a rent of 0 evicts nobody", free.about(0, 6), 1);
        free.tell(1, 5);
        Towns.pay(free, 9);
        due.is("16 is above 3 times the rent then", free.about(0, 6), 0);
    }

    private static void expiry() {
        due.promise(9, "payday, scrip that expires");
        ScripHollow x = Towns.of(2);
        Towns.pay(x, 100, 7);
        for (int k = 1; k <= 3; k++) {
            Towns.pay(x, k, 0);
        }
        due.is("at the end of the payday 3 it stands", x.scrip(0, 0), 100);
        due.is("nothing expired", x.books(3), 0);
        x.payday();
        due.is("at the end of the payday 4 it is gone", x.scrip(0, 0), 0);
        due.is("of each", x.scrip(1, 0), 0);
        due.is("the issue 1 stands", x.scrip(0, 1), 1);
        due.is("what expired", x.books(3), 107);
        due.is("what 0 has", x.about(0, 3), 6);
        x.payday();
        due.is("the issue 1 is gone", x.scrip(0, 1), 0);
        due.is("what expired", x.books(3), 108);
        due.is("anew", x.scripAnew(0), 5);
    }

    private static void paydayRefused() {
        due.promise(9, "payday, refused");
        ScripHollow x = Towns.of(1);
        for (int k = 0; k < 39; k++) {
            x.payday();
        }
        due.is("the payday 39", Towns.pay(x, 12), 12);
        due.is("its issue", x.scrip(0, 39), 12);
        due.refused("a 41st", Due.STATE, PaydayTest::allPaydays, t -> t.payday());
        due.refused("in a closed mine", Due.STATE, () -> Towns.closed(Towns.of(1)), t -> t.payday());
    }

    private static ScripHollow allPaydays() {
        ScripHollow x = Towns.of(1);
        for (int k = 0; k < 40; k++) {
            x.payday();
        }
        x.hew(0, 9);
        return x;
    }

    private static ScripHollow homeless() {
        ScripHollow x = Towns.of(2);
        x.tell(1, 1);
        for (int k = 0; k < 4; k++) {
            x.payday();
        }
        return x;
    }

    private static ScripHollow homelessOwing1() {
        ScripHollow x = homeless();
        Towns.pay(x, 3, 0);
        return x;
    }

    private static void house() {
        due.promise(10, "house");
        ScripHollow x = homeless();
        due.is("homeless", x.about(0, 6), 0);
        Towns.pay(x, 4, 0);
        x.house(0);
        due.is("housed", x.about(0, 6), 1);
        due.is("the other is not", x.about(1, 6), 0);
        x.payday();
        due.is("rent again", x.about(0, 5), 1);
        due.refused("house(2)", Due.INDEX, PaydayTest::homeless, t -> t.house(2));
        due.refused("house(-1)", Due.INDEX, PaydayTest::homeless, t -> t.house(-1));
        due.refused("with arrears", Due.STATE, PaydayTest::homeless, t -> t.house(0));
        due.refused("with arrears of 1", Due.STATE, PaydayTest::homelessOwing1, t -> t.house(0));
        due.refused("with a house", Due.STATE, () -> Towns.of(1), t -> t.house(0));
        due.refused("not alive", Due.STATE, () -> Towns.dead(Towns.of(1), 0), t -> t.house(0));
        ScripHollow closed = homeless();
        Towns.pay(closed, 4, 0);
        closed.close(0);
        closed.house(0);
        due.is("in a closed mine", closed.about(0, 6), 1);
    }
}
