/** Promises 19 to 21: laws. */
public final class LawTest {
    private static final Due due = new Due();

    public static void main(String[] args) {
        law();
        obey();
        truckObeyed();
        deductionObeyed();
        breaches();
        owed();
        due.end();
    }

    private static void law() {
        due.promise(19, "law");
        ScripHollow x = new ScripHollow();
        for (int law = 0; law < 3; law++) {
            due.is("law(" + law + ", true)", x.law(law, true), false);
            due.is("law(" + law + ", true)", x.law(law, true), true);
            due.is("law(" + law + ", false)", x.law(law, false), true);
            due.is("law(" + law + ", false)", x.law(law, false), false);
        }
        due.refused("law(-1, true)", Due.INDEX, () -> Towns.of(1), t -> t.law(-1, true));
        due.refused("law(3, true)", Due.INDEX, () -> Towns.of(1), t -> t.law(3, true));
    }

    private static void obey() {
        due.promise(20, "obey");
        ScripHollow x = new ScripHollow();
        due.is("obey(true)", x.obey(true), false);
        due.is("obey(true)", x.obey(true), true);
        due.is("obey(false)", x.obey(false), true);
        due.is("obey(false)", x.obey(false), false);
    }

    private static ScripHollow under(int law, boolean isObeying) {
        ScripHollow x = Towns.indebted(30);
        for (int kind = 1; kind <= 4; kind++) {
            x.tell(kind, 10);
        }
        x.law(law, true);
        x.obey(isObeying);
        return x;
    }

    private static void truckObeyed() {
        due.promise(19, "law, TRUCK obeyed");
        ScripHollow x = under(ScripHollow.TRUCK, true);
        due.is("payday()", Towns.pay(x, 100), 30);
        due.is("coin", x.about(0, 2), 30);
        due.is("no scrip", x.about(0, 3), 0);
        due.is("no scrip was paid", x.books(0), 0);
        due.is("the deductions were taken", x.about(0, 4), 0);
        due.is("breaches()", x.breaches(), 0);
        due.is("OWED", x.about(0, 7), 0);
        x = under(ScripHollow.TRUCK, false);
        due.is("not obeyed", Towns.pay(x, 100), 30);
        due.is("scrip", x.about(0, 3), 30);
        x = under(ScripHollow.DEATH, true);
        Towns.pay(x, 100);
        due.is("another law", x.about(0, 3), 30);
    }

    private static void deductionObeyed() {
        due.promise(20, "obey, DEDUCTION");
        ScripHollow x = under(ScripHollow.DEDUCTION, true);
        x.edition(54321);
        due.is("payday(): rent and doctor are taken", Towns.pay(x, 100), 80);
        due.is("the debt stands", x.about(0, 4), 30);
        due.is("scrip", x.about(0, 3), 80);
        due.is("no arrears", x.about(0, 5), 0);
        due.is("breaches()", x.breaches(), 0);
        due.is("OWED", x.about(0, 7), 0);
        x = under(ScripHollow.DEDUCTION, false);
        due.is("not obeyed", Towns.pay(x, 100), 30);
        due.is("the debt is paid", x.about(0, 4), 0);
        x = under(ScripHollow.TRUCK, true);
        x.law(ScripHollow.DEDUCTION, true);
        x.law(ScripHollow.DEDUCTION, false);
        due.is("not in force", Towns.pay(x, 100), 30);
    }

    private static void breaches() {
        due.promise(21, "breaches");
        ScripHollow x = under(ScripHollow.DEDUCTION, false);
        Towns.pay(x, 100);
        due.is("DEDUCTION, once for three kinds", x.breaches(), 1);
        due.is("what these took", x.about(0, 7), 50);
        x = under(ScripHollow.TRUCK, false);
        Towns.pay(x, 100);
        due.is("TRUCK", x.breaches(), 1);
        due.is("that scrip", x.about(0, 7), 30);
        x = under(ScripHollow.TRUCK, false);
        x.law(ScripHollow.DEDUCTION, true);
        x.miner();
        Towns.pay(x, 100, 61);
        due.is("both, for each miner", x.breaches(), 4);
        due.is("OWED to 0", x.about(0, 7), 80);
        due.is("OWED to 1", x.about(1, 7), 41);
        Towns.pay(x, 20, 21);
        due.is("nothing of 0 to break it, the kind 3 of 1", x.breaches(), 5);
        due.is("OWED to 0", x.about(0, 7), 80);
        due.is("OWED to 1", x.about(1, 7), 42);
        x = under(ScripHollow.DEATH, false);
        Towns.pay(x, 100);
        due.is("DEATH is none of these", x.breaches(), 0);
        x = Towns.of(1);
        Towns.pay(x, 100);
        due.is("no law in force", x.breaches(), 0);
        due.is("nothing OWED", x.about(0, 7), 0);
    }

    private static void owed() {
        due.promise(21, "breaches, what is OWED");
        ScripHollow x = under(ScripHollow.TRUCK, false);
        x.miner();
        x.kin(0, 1);
        Towns.pay(x, 100, 0);
        x.law(ScripHollow.TRUCK, false);
        x.obey(true);
        Towns.pay(x, 50, 0);
        due.is("whatever is told later", x.about(0, 7), 30);
        due.is("breaches()", x.breaches(), 1);
        x.law(ScripHollow.TRUCK, true);
        x.obey(false);
        Towns.pay(x, 45, 0);
        due.is("besides what was", x.about(0, 7), 35);
        x.die(0);
        due.is("no heir gets it", x.about(1, 7), 0);
        due.is("it was OWED to the dead", x.about(0, 7), 35);
        due.is("breaches()", x.breaches(), 2);
    }
}
