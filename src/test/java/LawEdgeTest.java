/** Promises 19 to 21 at their edges, case by case: laws. */
public final class LawEdgeTest {
    private static final int TRUCK = ScripHollow.TRUCK, DEDUCTION = ScripHollow.DEDUCTION, DEATH = ScripHollow.DEATH;
    private static final Due due = new Due();

    public static void main(String[] args) {
        law();
        obey();
        truckAtPayday();
        deductionAtPayday();
        truckBreaches();
        deductionBreaches();
        howManyBreaches();
        owed();
        due.end();
    }

    private static ScripHollow inForce(int... laws) {
        ScripHollow x = Towns.of(1);
        for (int law : laws) {
            x.law(law, true);
        }
        return x;
    }

    private static ScripHollow obeyed(ScripHollow x) {
        x.obey(true);
        return x;
    }

    private static void law() {
        due.promise(19, "law");
        for (int law = 0; law < 3; law++) {
            int l = law;
            due.gives("the law " + law + " was not in force", 0, () -> inForce(), x -> Due.bit(x.law(l, false)));
            due.gives("the law " + law + " was in force", 1, () -> inForce(l), x -> Due.bit(x.law(l, true)));
            due.gives("the law " + law + " is not any more", 0, () -> inForce(l), x -> {
                x.law(l, false);
                return Due.bit(x.law(l, false));
            });
            due.test("the law " + law + " by itself", () -> {
                ScripHollow x = inForce(l);
                for (int other = 0; other < 3; other++) {
                    due.is("the law " + other, x.law(other, false), other == l);
                }
            });
        }
        due.gives("in a closed mine", 0, () -> Towns.closed(inForce()), x -> Due.bit(x.law(2, true)));
        due.refused("-1 is the first that is refused below", Due.INDEX, () -> inForce(0, 1, 2), x -> x.law(-1, false));
        due.refused("3 is the first that is refused above", Due.INDEX, () -> inForce(0, 1, 2), x -> x.law(3, false));
    }

    private static void obey() {
        due.promise(20, "obey");
        due.gives("it did not at first", 0, ScripHollow::new, x -> Due.bit(x.obey(false)));
        due.gives("it did, and does", 1, () -> obeyed(inForce()), x -> Due.bit(x.obey(true)));
        due.gives("it did, and does not", 1, () -> obeyed(inForce()), x -> Due.bit(x.obey(false)));
        due.gives("in a strike", 1, () -> Towns.striking(obeyed(inForce())), x -> Due.bit(x.obey(false)));
        due.gives("in a closed mine", 1, () -> Towns.closed(obeyed(inForce())), x -> Due.bit(x.obey(false)));
        due.gives("it did not, though it did before", 0, () -> obeyed(inForce()), x -> {
            x.obey(false);
            return Due.bit(x.obey(true));
        });
    }

    private static int coinOf(ScripHollow x) {
        Towns.pay(x, 9);
        return x.about(0, 2);
    }

    private static void truckAtPayday() {
        due.promise(19, "law, TRUCK at a payday");
        due.gives("in force and obeyed: coin", 9, () -> obeyed(inForce(TRUCK)), x -> coinOf(x));
        due.gives("in force, not obeyed: no coin", 0, () -> inForce(TRUCK), x -> coinOf(x));
        due.gives("obeyed, not in force: no coin", 0, () -> obeyed(inForce()), x -> coinOf(x));
        due.gives("the other laws obeyed: no coin", 0, () -> obeyed(inForce(DEDUCTION, DEATH)), x -> coinOf(x));
        due.gives("all three obeyed: coin", 9, () -> obeyed(inForce(TRUCK, DEDUCTION, DEATH)), x -> coinOf(x));
        due.test("in force and obeyed: no scrip, and the books are empty", () -> {
            ScripHollow x = obeyed(inForce(TRUCK));
            due.is("payday", Towns.pay(x, 9), 9);
            due.is("scrip", x.about(0, 3), 0);
            due.is("books(0)", x.books(0), 0);
            due.is("the latest pay", x.about(0, 8), 9);
        });
        due.test("as it is at the payday, not before", () -> {
            ScripHollow x = Towns.of(1);
            x.hew(0, 9);
            x.law(TRUCK, true);
            x.obey(true);
            x.payday();
            due.is("coin", x.about(0, 2), 9);
        });
        due.test("scrip of before stays scrip", () -> {
            ScripHollow x = Towns.paid(7);
            x.law(TRUCK, true);
            x.obey(true);
            due.is("coin", coinOf(x), 9);
            due.is("scrip", x.scrip(0, 0), 7);
        });
    }

    /** Each kind takes 10 where the edition has it: a wage of 100 tells how many did. */
    private static ScripHollow tenDue(int row) {
        ScripHollow x = Towns.indebted(10);
        for (int kind = 1; kind <= 4; kind++) {
            x.tell(kind, 10);
        }
        x.edition(row);
        return x;
    }

    private static ScripHollow under(int row, int law) {
        ScripHollow x = tenDue(row);
        x.law(law, true);
        return x;
    }

    private static void deductionAtPayday() {
        due.promise(20, "obey, DEDUCTION at a payday");
        for (int kind = 1; kind <= 5; kind++) {
            int k = kind;
            due.gives("the kind " + kind + (kind < 3 ? " is taken" : " is passed by"), kind < 3 ? 90 : 100,
                    () -> obeyed(under(k, DEDUCTION)), x -> Towns.pay(x, 100));
            due.gives("the kind " + kind + " is taken where it is not obeyed", 90, () -> under(k, DEDUCTION),
                    x -> Towns.pay(x, 100));
            due.gives("the kind " + kind + " is taken where another law is obeyed", 90, () -> obeyed(under(k, TRUCK)),
                    x -> Towns.pay(x, 100));
        }
        due.gives("1 and 2 are taken behind 3 to 5", 80, () -> obeyed(under(54321, DEDUCTION)),
                x -> Towns.pay(x, 100));
        due.gives("the debt stays", 10, () -> obeyed(under(12345, DEDUCTION)), x -> {
            Towns.pay(x, 100);
            return x.about(0, 4);
        });
        due.gives("fees passed by are not due later", 60 - 50, () -> obeyed(under(12345, DEDUCTION)), x -> {
            Towns.pay(x, 100);
            x.obey(false);
            return Towns.pay(x, 60);
        });
    }

    private static int breachesOf(ScripHollow x, int wage) {
        Towns.pay(x, wage);
        return x.breaches();
    }

    private static void truckBreaches() {
        due.promise(21, "breaches, TRUCK");
        due.gives("scrip of 1, the least that breaks it", 1, () -> inForce(TRUCK), x -> breachesOf(x, 1));
        due.gives("scrip of 0 breaks nothing", 0, () -> inForce(TRUCK), x -> breachesOf(x, 0));
        due.gives("a wage of which nothing is left", 0, () -> under(1, TRUCK), x -> breachesOf(x, 10));
        due.gives("a wage of which 1 is left", 1, () -> under(1, TRUCK), x -> breachesOf(x, 11));
        due.gives("not in force", 0, () -> inForce(), x -> breachesOf(x, 9));
        due.gives("only DEATH in force", 0, () -> inForce(DEATH), x -> breachesOf(x, 9));
        due.gives("only DEDUCTION in force", 0, () -> inForce(DEDUCTION), x -> breachesOf(x, 9));
        due.gives("obeyed", 0, () -> obeyed(inForce(TRUCK)), x -> breachesOf(x, 9));
        due.gives("what is owed is that scrip", 89, () -> under(1, TRUCK), x -> {
            Towns.pay(x, 99);
            return x.about(0, 7);
        });
    }

    private static void deductionBreaches() {
        due.promise(21, "breaches, DEDUCTION");
        for (int kind = 1; kind <= 5; kind++) {
            int k = kind;
            due.gives("the kind " + kind + " took 10", kind < 3 ? 0 : 1, () -> under(k, DEDUCTION),
                    x -> breachesOf(x, 100));
            due.gives("the kind " + kind + " took 1", kind < 3 ? 0 : 1, () -> under(k, DEDUCTION),
                    x -> breachesOf(x, 1));
            due.gives("the kind " + kind + " took nothing, without a wage", 0, () -> under(k, DEDUCTION),
                    x -> breachesOf(x, 0));
            due.gives("the kind " + kind + ", what is owed is what it took", kind < 3 ? 0 : 7,
                    () -> under(k, DEDUCTION), x -> {
                        Towns.pay(x, 7);
                        return x.about(0, 7);
                    });
        }
        due.gives("the wage is used up ahead of 3", 0, () -> under(123, DEDUCTION), x -> breachesOf(x, 20));
        due.gives("1 is left for 3", 1, () -> under(123, DEDUCTION), x -> breachesOf(x, 21));
        due.gives("once for all three kinds", 1, () -> under(345, DEDUCTION), x -> breachesOf(x, 100));
        due.gives("what is owed is what all three took", 30, () -> under(345, DEDUCTION), x -> {
            Towns.pay(x, 100);
            return x.about(0, 7);
        });
        due.gives("nothing is due for 3 to 5", 0, () -> inForce(DEDUCTION), x -> breachesOf(x, 100));
        due.gives("3 to 5 are not in the edition", 0, () -> under(12, DEDUCTION), x -> breachesOf(x, 100));
        due.gives("not in force", 0, () -> tenDue(12345), x -> breachesOf(x, 100));
        due.gives("only DEATH in force", 0, () -> under(12345, DEATH), x -> breachesOf(x, 100));
        due.gives("obeyed", 0, () -> obeyed(under(12345, DEDUCTION)), x -> breachesOf(x, 100));
    }

    /** TRUCK and DEDUCTION are in force, the fee of SCHOOL is 10. */
    private static ScripHollow lawless(int miners) {
        ScripHollow x = Towns.of(miners);
        x.tell(ScripHollow.SCHOOL, 10);
        x.law(TRUCK, true);
        x.law(DEDUCTION, true);
        return x;
    }

    private static void howManyBreaches() {
        due.promise(21, "breaches, how many");
        due.gives("none at first", 0, () -> lawless(1), x -> x.breaches());
        due.gives("a payday without miners", 0, () -> lawless(0), x -> breachesWithout(x));
        due.gives("both laws at once", 2, () -> lawless(1), x -> breachesOf(x, 11));
        due.gives("both laws at once: both are owed", 11, () -> lawless(1), x -> {
            Towns.pay(x, 11);
            return x.about(0, 7);
        });
        due.gives("DEDUCTION alone where nothing is left", 1, () -> lawless(1), x -> breachesOf(x, 10));
        due.gives("each payday anew", 4, () -> lawless(1), x -> {
            Towns.pay(x, 11);
            return breachesOf(x, 11);
        });
        due.test("each of ten miners, to each their own", () -> {
            ScripHollow x = lawless(10);
            Towns.pay(x, 11, 12, 13, 14, 15, 16, 17, 18, 19, 20);
            due.is("breaches", x.breaches(), 20);
            for (int m = 0; m < 10; m++) {
                due.is("owed to " + m, x.about(m, 7), 11 + m);
            }
        });
        due.gives("none for the dead", 0, () -> Towns.dead(lawless(1), 0), x -> breachesWithout(x));
        due.gives("what is told breaks nothing before the payday", 0, LawEdgeTest::paidBeforeLaw, x -> x.breaches());
        due.gives("a law taken back makes none less", 2, () -> lawless(1), x -> {
            Towns.pay(x, 11);
            x.law(TRUCK, false);
            x.law(DEDUCTION, false);
            return x.breaches();
        });
        due.gives("to obey makes none less", 2, () -> lawless(1), x -> {
            Towns.pay(x, 11);
            x.obey(true);
            return x.breaches();
        });
        due.changesNothing("it is a question", () -> lawless(2), x -> x.breaches());
    }

    private static int breachesWithout(ScripHollow x) {
        x.payday();
        return x.breaches();
    }

    private static ScripHollow paidBeforeLaw() {
        ScripHollow x = Towns.paid(9);
        x.law(TRUCK, true);
        return x;
    }

    /** 11 are owed to the miner 0, whose kin is 1. */
    private static ScripHollow owing() {
        ScripHollow x = lawless(2);
        x.kin(0, 1);
        Towns.pay(x, 11, 0);
        return x;
    }

    private static void owed() {
        due.promise(21, "breaches, what is owed");
        due.gives("besides what was before", 11 + 12, LawEdgeTest::owing, x -> {
            Towns.pay(x, 12, 0);
            return x.about(0, 7);
        });
        due.gives("whatever law is told later", 11, LawEdgeTest::owing, x -> {
            x.law(TRUCK, false);
            x.law(DEDUCTION, false);
            return x.about(0, 7);
        });
        due.gives("whether it obeys later", 11, LawEdgeTest::owing, x -> {
            x.obey(true);
            return x.about(0, 7);
        });
        due.gives("it is never paid", 9, LawEdgeTest::owing, x -> {
            x.obey(true);
            return Towns.pay(x, 9, 0);
        });
        due.gives("it stays behind a payday that obeys", 11, LawEdgeTest::owing, x -> {
            x.obey(true);
            Towns.pay(x, 9, 0);
            return x.about(0, 7);
        });
        due.gives("no heir gets it", 0, LawEdgeTest::owing, x -> {
            x.die(0);
            return x.about(1, 7);
        });
        due.gives("it stays told of the dead", 11, LawEdgeTest::owing, x -> {
            x.die(0);
            return x.about(0, 7);
        });
        due.gives("it stays when the scrip has expired", 11, LawEdgeTest::owing, x -> {
            for (int k = 0; k < 4; k++) {
                x.payday();
            }
            return x.about(0, 7);
        });
        due.gives("it stays when the mine closes", 11, () -> Towns.closed(owing()), x -> x.about(0, 7));
        due.gives("nothing is owed to another", 0, LawEdgeTest::owing, x -> x.about(1, 7));
    }
}
