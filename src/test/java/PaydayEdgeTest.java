/** Promises 7 to 10 at their edges, case by case: paydays. */
public final class PaydayEdgeTest {
    private static final int RENT = ScripHollow.RENT;
    private static final Due due = new Due();

    public static void main(String[] args) {
        editionLet();
        editionRefused();
        editionSweep();
        tell();
        tellRefused();
        wage();
        kindsTaken();
        kindsOrder();
        asFarAsThatGoes();
        rentAndArrears();
        debtAtStore();
        evictions();
        rentThen();
        expiry();
        pays();
        howMany();
        house();
        due.end();
    }

    private static ScripHollow printed(int row) {
        ScripHollow x = Towns.of(1);
        x.edition(row);
        return x;
    }

    private static void editionLet() {
        due.promise(7, "edition");
        due.gives("the edition before", 12345, ScripHollow::new, x -> x.edition(5));
        due.gives("0, none at all, the least", 0, () -> printed(0), x -> x.edition(5));
        due.gives("1, the least kind by itself", 1, () -> printed(1), x -> x.edition(5));
        due.gives("5, the greatest kind by itself", 5, () -> printed(5), x -> x.edition(1));
        due.gives("12, the least of two", 12, () -> printed(12), x -> x.edition(5));
        due.gives("54, the greatest of two", 54, () -> printed(54), x -> x.edition(5));
        due.gives("12345, the least of all five", 12345, () -> printed(12345), x -> x.edition(5));
        due.gives("54321, the greatest there is", 54321, () -> printed(54321), x -> x.edition(5));
        due.gives("the same once more", 312, () -> printed(312), x -> x.edition(312));
        due.gives("in a strike", 12345, () -> Towns.striking(Towns.of(1)), x -> x.edition(1));
        due.gives("in a closed mine", 12345, () -> Towns.closed(Towns.of(1)), x -> x.edition(1));
    }

    private static void editionRefused() {
        due.promise(7, "edition, refused");
        refuseRow("the first below 0", -1);
        refuseRow("a row below 0", -12345);
        refuseRow("the kind 6, the first above 5", 6);
        refuseRow("the kind 9", 9);
        refuseRow("the kind 6 at the end", 16);
        refuseRow("the kind 6 ahead", 61);
        refuseRow("the kind 6 at the end of five", 12346);
        refuseRow("the digit 0 at the end", 10);
        refuseRow("the digit 0 at the end of five", 54320);
        refuseRow("the digit 0 between", 102);
        refuseRow("the first one twice", 11);
        refuseRow("the last one twice", 55);
        refuseRow("one twice, at the beginning and the end", 12341);
        refuseRow("one twice, side by side at the end", 12344);
        refuseRow("one twice, the first above the greatest", 54322);
        refuseRow("six kinds, all unlike", 123456);
        refuseRow("six kinds, one twice", 123451);
        refuseRow("five kinds, and 0 at the end", 123450);
        refuseRow("ten digits that end as a row does", 1111154321);
        refuseRow("as high as an int", Integer.MAX_VALUE);
        refuseRow("as low as an int", Integer.MIN_VALUE);
    }

    private static void refuseRow(String name, int row) {
        due.refused(name + ": " + row, Due.ARGUMENT, () -> printed(312), x -> x.edition(row));
    }

    /** The rows are reckoned here from their texts. */
    private static void editionSweep() {
        due.promise(7, "edition, all numbers from -1000 to 200000");
        due.test("those that are rows of unlike kinds are let through, 326 in all", () -> {
            int rows = 0;
            ScripHollow x = new ScripHollow();
            for (int row = -1000; row <= 200000; row++) {
                if (row % 500 == 0) {
                    x = new ScripHollow();
                }
                ScripHollow town = x;
                int told = row;
                boolean isLet = Due.answer(() -> town.edition(told)) >= 0;
                due.is("edition(" + row + ")", isLet, isRow(String.valueOf(row)));
                rows += isLet ? 1 : 0;
            }
            due.is("how many", rows, 1 + 5 + 20 + 60 + 120 + 120);
        });
    }

    private static boolean isRow(String digits) {
        return digits.equals("0") || (digits.matches("[1-5]+") && digits.chars().distinct().count() == digits.length());
    }

    private static void tell() {
        due.promise(8, "tell");
        due.gives("the rate: 1, the least", 1, () -> told(0, 1), x -> x.tell(0, 7));
        due.gives("the rate: 50, the most", 50, () -> told(0, 50), x -> x.tell(0, 7));
        for (int what = 1; what <= 4; what++) {
            int w = what;
            due.gives("the kind " + w + ": 0, the least", 0, () -> told(w, 0), x -> x.tell(w, 7));
            due.gives("the kind " + w + ": 100, the most", 100, () -> told(w, 100), x -> x.tell(w, 7));
            due.gives("the kind " + w + ": 51, beyond a rate", 51, () -> told(w, 51), x -> x.tell(w, 7));
        }
        for (int what = 0; what <= 4; what++) {
            int w = what;
            due.gives(w + ": the same once more", 13, () -> told(w, 13), x -> x.tell(w, 13));
            due.test(w + ": the others stay", () -> {
                ScripHollow x = told(w, 13);
                int[] first = {10, 0, 0, 0, 0};
                for (int other = 0; other <= 4; other++) {
                    due.is("the other " + other, x.tell(other, 1), other == w ? 13 : first[other]);
                }
            });
        }
    }

    private static ScripHollow told(int what, int amount) {
        ScripHollow x = Towns.of(1);
        x.tell(what, amount);
        return x;
    }

    private static void tellRefused() {
        due.promise(8, "tell, refused");
        due.refused("what -1, the first below", Due.ARGUMENT, () -> Towns.of(1), x -> x.tell(-1, 10));
        due.refused("what 5, STORE, the first above", Due.ARGUMENT, () -> Towns.of(1),
                x -> x.tell(ScripHollow.STORE, 10));
        due.refused("the rate 0, though a fee can be 0", Due.ARGUMENT, () -> Towns.of(1), x -> x.tell(0, 0));
        due.refused("the rate 51, though a fee can be 51", Due.ARGUMENT, () -> Towns.of(1), x -> x.tell(0, 51));
        for (int what = 1; what <= 4; what++) {
            int w = what;
            due.refused("the kind " + w + ": -1", Due.ARGUMENT, () -> Towns.of(1), x -> x.tell(w, -1));
            due.refused("the kind " + w + ": 101", Due.ARGUMENT, () -> Towns.of(1), x -> x.tell(w, 101));
        }
        due.refused("both out of range", Due.ARGUMENT, () -> Towns.of(1), x -> x.tell(5, 101));
    }

    /** The pay of one miner without deductions. */
    private static int payOf(int coal, int rate) {
        ScripHollow x = Towns.of(1);
        x.tell(0, rate);
        return Towns.pay(x, coal);
    }

    private static void wage() {
        due.promise(9, "payday, the wage");
        due.test("no coal", () -> due.is("pay", payOf(0, 50), 0));
        due.test("rounded down to 0: 9 at the rate 1", () -> due.is("pay", payOf(9, 1), 0));
        due.test("the first that is 1: 10 at the rate 1", () -> due.is("pay", payOf(10, 1), 1));
        due.test("the last that is 1: 19 at the rate 1", () -> due.is("pay", payOf(19, 1), 1));
        due.test("1 at the rate 9", () -> due.is("pay", payOf(1, 9), 0));
        due.test("1 at the rate 10", () -> due.is("pay", payOf(1, 10), 1));
        due.test("3 at the rate 33", () -> due.is("pay", payOf(3, 33), 9));
        due.test("1 at the rate 50", () -> due.is("pay", payOf(1, 50), 5));
        due.test("each by themselves: 5 and 5 at the rate 1", () -> {
            ScripHollow x = told(0, 1);
            x.miner();
            due.is("pays", Towns.pay(x, 5, 5), 0);
        });
        due.test("coal that came in parts is one: 5 and 5 at the rate 1", () -> {
            ScripHollow x = told(0, 1);
            x.hew(0, 5);
            due.is("pay", Towns.pay(x, 5), 1);
        });
        due.test("the rate as it is then", () -> {
            ScripHollow x = told(0, 50);
            x.hew(0, 10);
            x.tell(0, 7);
            due.is("pay", x.payday(), 7);
        });
        due.test("the coal is gone, also what was rounded off", () -> {
            ScripHollow x = told(0, 1);
            Towns.pay(x, 9);
            due.is("coal", x.about(0, 1), 0);
            due.is("the next pay", Towns.pay(x, 9), 0);
        });
        due.test("the most of one payday", () -> {
            ScripHollow x = told(0, 50);
            due.is("pay", Towns.pay(x, 400000), 2000000);
        });
    }

    /** RENT 1, DOCTOR 2, TOOLS 4, SCHOOL 8 and STORE 16 are due: what is taken tells the kinds. */
    private static ScripHollow fiveDue() {
        ScripHollow x = Towns.indebted(16);
        for (int kind = 1; kind <= 4; kind++) {
            x.tell(kind, 1 << (kind - 1));
        }
        return x;
    }

    private static void kindsTaken() {
        due.promise(9, "payday, the kinds of the edition");
        int[] rows = {0, 1, 2, 3, 4, 5, 12, 21, 54, 135, 2345, 12345, 54321};
        for (int row : rows) {
            due.test("of the edition " + row + " all, and no others", () -> {
                int taken = 0;
                for (int rest = row; rest > 0; rest /= 10) {
                    taken += 1 << (rest % 10 - 1);
                }
                ScripHollow x = fiveDue();
                x.edition(row);
                due.is("pay", Towns.pay(x, 100), 100 - taken);
                due.is("arrears", x.about(0, 5), 1 - taken % 2);
                due.is("debt", x.about(0, 4), 16 - taken / 16 * 16);
            });
        }
    }

    /** A wage of 30, where 30 are due for each kind: all of it goes to the first one. */
    private static void kindsOrder() {
        due.promise(9, "payday, the first of the edition takes first");
        for (int first = 1; first <= 5; first++) {
            for (int next = 1; next <= 5; next++) {
                if (first != next) {
                    orderOf(first, next);
                }
            }
        }
        due.test("the last of five takes nothing: 23415", () -> {
            ScripHollow x = evenDue(23415);
            Towns.pay(x, 120);
            due.is("debt", x.about(0, 4), 30);
            due.is("arrears", x.about(0, 5), 0);
        });
        due.test("the last of five takes nothing: 52341", () -> {
            ScripHollow x = evenDue(52341);
            Towns.pay(x, 120);
            due.is("debt", x.about(0, 4), 0);
            due.is("arrears", x.about(0, 5), 30);
        });
        due.test("the edition as it is then", () -> {
            ScripHollow x = evenDue(51);
            x.hew(0, 30);
            x.edition(15);
            x.payday();
            due.is("debt", x.about(0, 4), 30);
            due.is("arrears", x.about(0, 5), 0);
        });
    }

    private static void orderOf(int first, int next) {
        due.test("of " + first + next, () -> {
            ScripHollow x = evenDue(first * 10 + next);
            x.law(ScripHollow.DEDUCTION, true);
            Towns.pay(x, 30);
            due.is("arrears", x.about(0, 5), first == 1 ? 0 : 30);
            due.is("debt", x.about(0, 4), first == 5 ? 0 : 30);
            due.is("what the kinds 3 to 5 took", x.about(0, 7), first >= 3 ? 30 : 0);
        });
    }

    private static ScripHollow evenDue(int row) {
        ScripHollow x = Towns.indebted(30);
        for (int kind = 1; kind <= 4; kind++) {
            x.tell(kind, 30);
        }
        x.edition(row);
        return x;
    }

    private static void asFarAsThatGoes() {
        due.promise(9, "payday, as far as the wage goes");
        for (int kind = 1; kind <= 5; kind++) {
            int k = kind;
            due.test("the kind " + k + ", the wage 1 more than is due", () -> takes(k, 31, 1, 0));
            due.test("the kind " + k + ", the wage just what is due", () -> takes(k, 30, 0, 0));
            due.test("the kind " + k + ", the wage 1 less than is due", () -> takes(k, 29, 0, 1));
            due.test("the kind " + k + ", no wage", () -> takes(k, 0, 0, 30));
        }
        for (int kind = 2; kind <= 4; kind++) {
            int k = kind;
            due.test("the fee " + k + ", what was not taken is not due later", () -> {
                ScripHollow x = evenDue(k);
                Towns.pay(x, 10);
                due.is("the next pay", Towns.pay(x, 40), 10);
            });
        }
        due.test("what one kind leaves, the next one takes", () -> {
            ScripHollow x = evenDue(15);
            due.is("pay", Towns.pay(x, 31), 0);
            due.is("debt", x.about(0, 4), 29);
        });
        due.test("a kind for which nothing is due takes nothing", () -> due.is("pay", Towns.pay(Towns.of(1), 9), 9));
    }

    private static void takes(int kind, int wage, int pay, int lacking) {
        ScripHollow x = evenDue(kind);
        due.is("pay", Towns.pay(x, wage), pay);
        due.is("arrears", x.about(0, 5), kind == 1 ? lacking : 30);
        due.is("debt", x.about(0, 4), kind == 5 ? lacking : 30);
    }

    private static void rentAndArrears() {
        due.promise(9, "payday, the rent and the arrears");
        due.test("the rent is not in the edition: all of it is in arrears", () -> {
            ScripHollow x = printed(2345);
            x.tell(RENT, 20);
            due.is("pay", Towns.pay(x, 50), 50);
            due.is("arrears", x.about(0, 5), 20);
        });
        due.test("no edition: arrears upon arrears", () -> {
            ScripHollow x = printed(0);
            x.tell(RENT, 20);
            x.payday();
            due.is("pay", Towns.pay(x, 50), 50);
            due.is("arrears", x.about(0, 5), 40);
        });
        due.test("the rent is not in the edition any more: what it took before is not taken again", () -> {
            ScripHollow x = printed(1);
            x.tell(RENT, 20);
            Towns.pay(x, 20);
            x.edition(2);
            x.payday();
            due.is("arrears", x.about(0, 5), 20);
        });
        due.test("both together, just as much as the wage", () -> {
            ScripHollow x = Towns.inArrears(7);
            x.tell(RENT, 20);
            due.is("pay", Towns.pay(x, 27), 0);
            due.is("arrears", x.about(0, 5), 0);
        });
        due.test("both together, 1 more than the wage", () -> {
            ScripHollow x = Towns.inArrears(7);
            x.tell(RENT, 20);
            due.is("pay", Towns.pay(x, 26), 0);
            due.is("arrears", x.about(0, 5), 1);
        });
        due.test("without a house no rent is due", () -> {
            ScripHollow x = Towns.homeless(1);
            x.tell(RENT, 20);
            due.is("pay", Towns.pay(x, 50), 50);
            due.is("arrears", x.about(0, 5), 0);
        });
        due.test("without a house the arrears are due", () -> {
            ScripHollow x = lost();
            due.is("pay", Towns.pay(x, 81), 1);
            due.is("arrears", x.about(0, 5), 0);
        });
        due.test("without a house, and not in the edition, the arrears stay", () -> {
            ScripHollow x = lost();
            x.edition(0);
            due.is("pay", Towns.pay(x, 81), 81);
            due.is("arrears", x.about(0, 5), 80);
        });
        due.test("at a rent of 0 the arrears are due", () -> {
            ScripHollow x = Towns.inArrears(7);
            due.is("pay", Towns.pay(x, 50), 43);
            due.is("arrears", x.about(0, 5), 0);
        });
        due.test("each by themselves", () -> {
            ScripHollow x = Towns.of(10);
            x.tell(RENT, 20);
            Towns.pay(x, 19, 0, 0, 0, 0, 0, 0, 0, 0, 5);
            due.is("arrears of 0, the first", x.about(0, 5), 1);
            due.is("arrears of 5", x.about(5, 5), 20);
            due.is("arrears of 9, the last", x.about(9, 5), 15);
        });
    }

    /** One miner that has lost the house by arrears of 80. */
    private static ScripHollow lost() {
        ScripHollow x = Towns.of(1);
        x.tell(RENT, 20);
        for (int k = 0; k < 4; k++) {
            x.payday();
        }
        return x;
    }

    private static void debtAtStore() {
        due.promise(9, "payday, the debt");
        due.test("the store is not in the edition: the debt stays", () -> {
            ScripHollow x = Towns.indebted(30);
            x.edition(1234);
            due.is("pay", Towns.pay(x, 50), 50);
            due.is("debt", x.about(0, 4), 30);
        });
        due.test("the store is not in the edition any more: what it took before is not taken again", () -> {
            ScripHollow x = Towns.indebted(30);
            Towns.pay(x, 10);
            x.edition(2);
            x.payday();
            due.is("debt", x.about(0, 4), 20);
        });
        due.test("the store is passed by, by law: what it took before is not taken again", () -> {
            ScripHollow x = Towns.indebted(30);
            Towns.pay(x, 10);
            x.law(ScripHollow.DEDUCTION, true);
            x.obey(true);
            x.payday();
            due.is("debt", x.about(0, 4), 20);
        });
        due.test("what the store took is no scrip that came back", () -> {
            ScripHollow x = Towns.indebted(30);
            Towns.pay(x, 50);
            due.is("books(1)", x.books(1), 0);
        });
        due.test("what was not taken is due later", () -> {
            ScripHollow x = Towns.indebted(30);
            Towns.pay(x, 10);
            due.is("the next pay", Towns.pay(x, 50), 30);
        });
        due.test("scrip and coin one has pay no debt", () -> {
            ScripHollow x = Towns.indebted(30);
            x.edition(0);
            Towns.pay(x, 100);
            x.edition(5);
            x.payday();
            due.is("debt", x.about(0, 4), 30);
        });
    }

    private static void evictions() {
        due.promise(9, "payday, who loses the house");
        for (int rent : new int[] {1, 20, 100}) {
            due.test("arrears just 3 times a rent of " + rent + ": not", () -> owes(rent, 3 * rent, true));
            due.test("arrears 1 above 3 times a rent of " + rent, () -> owes(rent, 3 * rent + 1, false));
        }
        due.test("arrears above the rent, but not 3 times", () -> owes(20, 21, true));
        due.test("the arrears as they are when the rent was taken", () -> {
            ScripHollow x = Towns.of(1);
            x.tell(RENT, 20);
            x.payday();
            x.payday();
            x.payday();
            Towns.pay(x, 20);
            due.is("80 were due, 60 are left: a house", x.about(0, 6), 1);
        });
        due.test("the rent was due when the house is lost", () -> due.is("arrears", lost().about(0, 5), 80));
        due.test("it is lost once, and the arrears stay", () -> {
            ScripHollow x = lost();
            x.payday();
            due.is("house", x.about(0, 6), 0);
            due.is("arrears", x.about(0, 5), 80);
        });
        due.test("only the one that owes so much: the last of ten", () -> onlyOne(9));
        due.test("only the one that owes so much: the first of ten", () -> onlyOne(0));
    }

    /** By the last of four paydays the arrears are so much. */
    private static void owes(int rent, int arrears, boolean isHoused) {
        ScripHollow x = Towns.of(1);
        x.tell(RENT, rent);
        for (int k = 0; k < 3; k++) {
            x.payday();
        }
        due.is("a house, at first", x.about(0, 6), 1);
        Towns.pay(x, 4 * rent - arrears);
        due.is("arrears", x.about(0, 5), arrears);
        due.is("a house", x.about(0, 6), Due.bit(isHoused));
    }

    private static void onlyOne(int poor) {
        ScripHollow x = Towns.of(10);
        x.tell(RENT, 20);
        int[] coal = new int[10];
        for (int m = 0; m < 10; m++) {
            coal[m] = m == poor ? 0 : 20;
        }
        for (int k = 0; k < 4; k++) {
            Towns.pay(x, coal);
        }
        for (int m = 0; m < 10; m++) {
            due.is("a house of " + m, x.about(m, 6), Due.bit(m != poor));
        }
    }

    private static void rentThen() {
        due.promise(9, "payday, 3 times the rent then");
        due.test("arrears of 30 at a rent of 10, which was 20", () -> {
            ScripHollow x = Towns.inArrears(20);
            x.tell(RENT, 10);
            x.payday();
            due.is("a house", x.about(0, 6), 1);
        });
        due.test("arrears of 29 at a rent of 9, which was 20", () -> {
            ScripHollow x = Towns.inArrears(20);
            x.tell(RENT, 9);
            x.payday();
            due.is("a house", x.about(0, 6), 0);
        });
        due.test("arrears of 101 at a rent of 1", () -> {
            ScripHollow x = Towns.inArrears(100);
            x.tell(RENT, 1);
            x.payday();
            due.is("a house", x.about(0, 6), 0);
        });
        due.test("a rent of 0 takes no house, arrears or not", () -> {
            ScripHollow x = Towns.inArrears(100);
            x.payday();
            due.is("a house", x.about(0, 6), 1);
            due.is("arrears", x.about(0, 5), 100);
        });
        due.test("a rent of 0 takes no house without arrears", () -> {
            ScripHollow x = Towns.of(1);
            x.payday();
            due.is("a house", x.about(0, 6), 1);
        });
        due.test("to tell the rent takes no house before the payday", () -> {
            ScripHollow x = Towns.inArrears(100);
            x.tell(RENT, 1);
            due.is("a house", x.about(0, 6), 1);
        });
    }

    private static ScripHollow paidInTurn(int paydays) {
        ScripHollow x = Towns.of(2);
        for (int k = 0; k < paydays; k++) {
            Towns.pay(x, k + 1, 100);
        }
        return x;
    }

    private static void expiry() {
        due.promise(9, "payday, scrip that expires");
        due.gives("at the end of the payday 3 no issue", 0, () -> paidInTurn(4), x -> x.books(3));
        due.gives("at the end of the payday 3 the issue 0 stands", 1, () -> paidInTurn(4), x -> x.scrip(0, 0));
        due.gives("at the end of the payday 4 the issue 0 is gone", 0, () -> paidInTurn(5), x -> x.scrip(0, 0));
        due.gives("at the end of the payday 4 it is gone of the last, too", 0, () -> paidInTurn(5), x -> x.scrip(1, 0));
        due.gives("at the end of the payday 4 the issue 1 stands", 2, () -> paidInTurn(5), x -> x.scrip(0, 1));
        due.gives("at the end of the payday 4 its own issue stands", 5, () -> paidInTurn(5), x -> x.scrip(0, 4));
        due.gives("at the end of the payday 4 the books tell it", 101, () -> paidInTurn(5), x -> x.books(3));
        due.gives("at the end of the payday 5 the issue 1 is gone", 0, () -> paidInTurn(6), x -> x.scrip(0, 1));
        due.gives("at the end of the payday 39 the issue 35 is gone", 0, () -> paidInTurn(40), x -> x.scrip(0, 35));
        due.gives("at the end of the payday 39 the issue 36 stands", 37, () -> paidInTurn(40), x -> x.scrip(0, 36));
        due.gives("the last issue stands", 40, () -> paidInTurn(40), x -> x.scrip(0, 39));
        due.gives("four issues stand at the end", 37 + 38 + 39 + 40, () -> paidInTurn(40), x -> x.about(0, 3));
        due.gives("it goes by paydays, be they without a pay", 0, PaydayEdgeTest::scripOfOld, x -> x.about(0, 3));
        due.gives("coin does not expire", 9, PaydayEdgeTest::coinOfOld, x -> x.about(0, 2));
        due.test("inherited scrip expires by its issue", () -> {
            ScripHollow x = Towns.paid(5, 7);
            x.kin(0, 1);
            x.payday();
            x.die(0);
            x.payday();
            x.payday();
            due.is("scrip", x.about(1, 3), 12);
            x.payday();
            due.is("scrip, a payday later", x.about(1, 3), 0);
            due.is("what expired", x.books(3), 12);
        });
        due.test("what was spent does not expire again", () -> {
            ScripHollow x = Towns.paid(30);
            x.buy(0, 0, 2);
            for (int k = 0; k < 4; k++) {
                x.payday();
            }
            due.is("what expired", x.books(3), 10);
        });
    }

    private static ScripHollow scripOfOld() {
        ScripHollow x = Towns.paid(9);
        for (int k = 0; k < 4; k++) {
            x.payday();
        }
        return x;
    }

    private static ScripHollow coinOfOld() {
        ScripHollow x = Towns.coined(9);
        for (int k = 0; k < 5; k++) {
            x.payday();
        }
        return x;
    }

    private static void pays() {
        due.promise(9, "payday, the pays");
        due.gives("nobody is there", 0, ScripHollow::new, x -> x.payday());
        due.gives("nobody is alive", 0, () -> Towns.dead(Towns.of(1), 0), x -> x.payday());
        due.gives("nobody has coal", 0, () -> Towns.of(10), x -> x.payday());
        due.test("all ten, from the first to the last", () -> {
            ScripHollow x = Towns.of(10);
            due.is("pays", Towns.pay(x, 1, 2, 4, 8, 16, 32, 64, 128, 256, 512), 1023);
            for (int m = 0; m < 10; m++) {
                due.is("scrip of " + m, x.scrip(m, 0), 1 << m);
                due.is("the latest pay of " + m, x.about(m, 8), 1 << m);
            }
        });
        due.test("all ten in coin", () -> {
            ScripHollow x = Towns.of(10);
            due.is("pays", Towns.payCoin(x, 1, 2, 4, 8, 16, 32, 64, 128, 256, 512), 1023);
            due.is("coin of 9", x.about(9, 2), 512);
        });
        due.test("coin comes to the coin there was", () -> {
            ScripHollow x = Towns.coined(5);
            Towns.payCoin(x, 7);
            due.is("coin", x.about(0, 2), 12);
        });
        due.test("scrip comes to the scrip there was", () -> {
            ScripHollow x = Towns.paid(5);
            Towns.pay(x, 7);
            due.is("scrip", x.about(0, 3), 12);
        });
        due.test("the pay of the dead is not told again", () -> {
            ScripHollow x = Towns.paid(5, 7);
            x.die(0);
            due.is("pays", Towns.pay(x, 0, 3), 3);
            due.is("the latest pay of the dead", x.about(0, 8), 5);
        });
        due.test("the coal of the dead is not paid", () -> {
            ScripHollow x = Towns.of(2);
            x.kin(0, 1);
            x.hew(0, 50);
            x.die(0);
            due.is("pays", x.payday(), 0);
        });
        due.test("a pay of 0 is the latest", () -> {
            ScripHollow x = Towns.paid(5);
            x.payday();
            due.is("the latest pay", x.about(0, 8), 0);
        });
        due.gives("in a strike, for what was hewn before", 9, PaydayEdgeTest::strikingWithCoal, x -> x.payday());
    }

    private static ScripHollow strikingWithCoal() {
        ScripHollow x = Towns.of(1);
        x.hew(0, 9);
        return Towns.striking(x);
    }

    private static void howMany() {
        due.promise(9, "payday, how many");
        due.gives("40 are let through", 40, () -> Towns.of(1), Due::paydaysLeft);
        due.test("the 40th, the last, pays the issue 39", () -> {
            ScripHollow x = Towns.afterPaydays(39);
            due.is("pay", Towns.pay(x, 7), 7);
            due.is("scrip", x.scrip(0, 39), 7);
        });
        due.refused("the 41st", Due.STATE, PaydayEdgeTest::fortyWithCoal, x -> x.payday());
        due.refused("the 41st without miners", Due.STATE, PaydayEdgeTest::fortyWithoutMiners, x -> x.payday());
        due.refused("the first in a closed mine", Due.STATE, () -> Towns.closed(Towns.of(1)), x -> x.payday());
        due.refused("in a closed mine, with coal", Due.STATE, PaydayEdgeTest::closedWithCoal, x -> x.payday());
        due.refused("the 41st in a closed mine", Due.STATE, () -> Towns.closed(fortyWithCoal()), x -> x.payday());
    }

    private static ScripHollow fortyWithCoal() {
        ScripHollow x = Towns.afterPaydays(40);
        x.hew(0, 9);
        return x;
    }

    private static ScripHollow fortyWithoutMiners() {
        ScripHollow x = new ScripHollow();
        for (int k = 0; k < 40; k++) {
            x.payday();
        }
        return x;
    }

    private static ScripHollow closedWithCoal() {
        ScripHollow x = Towns.of(1);
        x.hew(0, 9);
        return Towns.closed(x);
    }

    private static void house() {
        due.promise(10, "house");
        due.gives("0, the first of ten", 1, () -> housed(0), x -> x.about(0, 6));
        due.gives("9, the last of ten", 1, () -> housed(9), x -> x.about(9, 6));
        due.gives("no other gets one", 0, () -> housed(9), x -> x.about(8, 6) + x.about(0, 6));
        due.gives("in a closed mine", 1, () -> given(Towns.closed(Towns.homeless(1))), x -> x.about(0, 6));
        due.gives("in a strike", 1, () -> given(Towns.striking(Towns.homeless(1))), x -> x.about(0, 6));
        due.gives("rent is due again", 20, () -> housed(0), x -> {
            x.tell(RENT, 20);
            x.payday();
            return x.about(0, 5);
        });
        due.gives("with a debt", 1, PaydayEdgeTest::housedInDebt, x -> x.about(0, 6));
        due.refused("a house is there", Due.STATE, () -> Towns.of(1), x -> x.house(0));
        due.refused("a house was given", Due.STATE, () -> housed(0), x -> x.house(0));
        due.refused("a house and arrears", Due.STATE, () -> Towns.inArrears(1), x -> x.house(0));
        due.refused("no house, arrears of 1", Due.STATE, PaydayEdgeTest::lostOwing1, x -> x.house(0));
        due.refused("no house, arrears", Due.STATE, PaydayEdgeTest::lost, x -> x.house(0));
        due.refused("dead, and with no house since", Due.STATE, () -> Towns.dead(Towns.of(1), 0), x -> x.house(0));
        due.refused("dead without a house", Due.STATE, () -> Towns.dead(Towns.homeless(1), 0), x -> x.house(0));
        due.refused("without miners", Due.INDEX, ScripHollow::new, x -> x.house(0));
        due.refused("the miner 1 of one", Due.INDEX, () -> Towns.homeless(1), x -> x.house(1));
    }

    private static ScripHollow housed(int miner) {
        ScripHollow x = Towns.homeless(10);
        x.house(miner);
        return x;
    }

    private static ScripHollow given(ScripHollow x) {
        x.house(0);
        return x;
    }

    private static ScripHollow lostOwing1() {
        ScripHollow x = lost();
        Towns.pay(x, 79);
        return x;
    }

    private static ScripHollow housedInDebt() {
        ScripHollow x = Towns.homeless(1);
        x.buy(0, 0, 1);
        return given(x);
    }
}
