/** Promises 22 to 27: death, strikes, closing. */
public final class EndTest {
    private static final Due due = new Due();

    public static void main(String[] args) {
        die();
        deathLaw();
        noHeir();
        heirs();
        vote();
        strike();
        give();
        soup();
        close();
        closeInParts();
        closeLarge();
        due.end();
    }

    private static void die() {
        due.promise(22, "die");
        ScripHollow x = Towns.estate();
        due.is("die(0)", x.die(0), 1);
        int[] dead = {0, 0, 0, 0, 0, 0, 0, 0, 15, 1};
        int[] heir = {1, 0, 23, 58, 92, 14, 1, 0, 16, -1};
        for (int what = 0; what < 10; what++) {
            due.is("about(0, " + what + ")", x.about(0, what), dead[what]);
            due.is("about(1, " + what + ")", x.about(1, what), heir[what]);
        }
        due.is("by its issues", x.scrip(1, 1), 27);
        due.is("by its issues", x.scrip(1, 2), 31);
        due.is("the dead one's", x.scrip(0, 2), 0);
        due.is("goods", x.has(1, 2), 7);
        due.is("goods 0", x.has(1, 0), 2);
        due.is("the dead one's goods", x.has(0, 2), 0);
        due.is("the dead one's goods 0", x.has(0, 0), 0);
        due.is("anew", x.scripAnew(1), 58);
        due.is("anew, of the dead", x.scripAnew(0), 0);
        due.is("nothing was gone", x.books(4), 0);
        x.kin(1, 0);
        due.is("the last", x.die(1), -1);
        due.is("all of it was gone", x.books(4), 58);
        due.refused("die(2)", Due.INDEX, Towns::estate, t -> t.die(2));
        due.refused("die(-1)", Due.INDEX, Towns::estate, t -> t.die(-1));
        due.refused("not alive", Due.STATE, () -> Towns.dead(Towns.estate(), 0), t -> t.die(0));
    }

    private static void deathLaw() {
        due.promise(22, "die, DEATH in force");
        for (int obeys = 0; obeys < 2; obeys++) {
            ScripHollow x = Towns.estate();
            x.law(ScripHollow.DEATH, true);
            x.obey(obeys == 1);
            due.is("die(0)", x.die(0), 1);
            due.is("the heir's debt", x.about(1, 4), 40);
            due.is("the heir's arrears", x.about(1, 5), 7);
            due.is("the dead one's debt", x.about(0, 4), 0);
            due.is("the dead one's arrears", x.about(0, 5), 0);
            due.is("coin", x.about(1, 2), 23);
            due.is("scrip", x.about(1, 3), 58);
            due.is("goods", x.has(1, 2), 7);
            due.is("it is no breach", x.breaches(), 0);
        }
    }

    private static void noHeir() {
        due.promise(22, "die, without an heir");
        ScripHollow x = Towns.estate();
        x.kin(0, -1);
        due.is("die(0)", x.die(0), -1);
        for (int what = 0; what < 8; what++) {
            due.is("about(0, " + what + ")", x.about(0, what), 0);
        }
        due.is("goods", x.has(0, 2), 0);
        due.is("what was gone", x.books(4), 28);
        due.is("the other's scrip", x.about(1, 3), 30);
        due.is("the other's debt", x.about(1, 4), 40);
        due.is("anew", x.scripAnew(0), 0);
        x.die(1);
        due.is("what was gone by both", x.books(4), 58);
    }

    private static void heirs() {
        due.promise(22, "die, the heirs");
        ScripHollow x = Towns.paid(1, 10, 100, 1000);
        x.kin(0, 1);
        x.kin(1, 2);
        x.kin(2, 3);
        due.is("the kin is alive", x.die(1), 2);
        due.is("the kin of the kin", x.die(0), 2);
        due.is("the kin again", x.die(2), 3);
        due.is("what 3 has", x.about(3, 3), 1111);
        due.is("none told", x.die(3), -1);
        due.is("what was gone", x.books(4), 1111);
        ScripHollow round = Towns.paid(1, 10, 100);
        round.kin(0, 1);
        round.kin(1, 0);
        due.is("alive, though of a ring", round.die(1), 0);
        due.is("a ring of two", round.die(0), -1);
        ScripHollow beside = Towns.of(4);
        beside.kin(0, 1);
        beside.kin(1, 2);
        beside.kin(2, 1);
        beside.die(1);
        beside.die(2);
        due.is("a ring beside oneself", beside.die(0), -1);
        ScripHollow long9 = Towns.of(10);
        for (int m = 0; m < 9; m++) {
            long9.kin(m, m + 1);
        }
        for (int m = 1; m < 9; m++) {
            due.is("a long row", long9.die(m), m + 1);
        }
        due.is("the longest row", long9.die(0), 9);
        due.is("after a close", Towns.closed(twoKin()).die(0), 1);
        due.is("in a strike", Towns.striking(twoKin()).die(0), 1);
    }

    private static ScripHollow twoKin() {
        ScripHollow x = Towns.coined(5, 6);
        x.kin(0, 1);
        return x;
    }

    private static void vote() {
        due.promise(23, "vote");
        ScripHollow x = Towns.of(2);
        due.is("vote(1, true)", x.vote(1, true), false);
        due.is("vote(1, true)", x.vote(1, true), true);
        due.is("vote(0, false)", x.vote(0, false), false);
        due.is("vote(1, false)", x.vote(1, false), true);
        due.is("vote(1, false)", x.vote(1, false), false);
        x.die(0);
        due.is("of one dead", x.vote(0, true), false);
        due.is("of one dead", x.vote(0, true), true);
        due.refused("vote(2, true)", Due.INDEX, () -> Towns.of(2), t -> t.vote(2, true));
        due.refused("vote(-1, true)", Due.INDEX, () -> Towns.of(2), t -> t.vote(-1, true));
    }

    private static void strike() {
        due.promise(24, "strike");
        ScripHollow x = Towns.votes(3, 2);
        due.is("begins", x.strike(), true);
        x.vote(0, false);
        x.vote(1, false);
        due.is("ends, whatever they are for", x.strike(), false);
        due.refused("two of five are for it", Due.STATE, () -> Towns.votes(2, 3), t -> t.strike());
        due.refused("two of four are for it", Due.STATE, () -> Towns.votes(2, 2), t -> t.strike());
        due.refused("nobody is there", Due.STATE, ScripHollow::new, t -> t.strike());
        due.is("one of one", Towns.votes(1, 0).strike(), true);
        due.is("of those that are alive", Towns.dead(Towns.votes(2, 2), 3).strike(), true);
        due.refused("the dead do not count", Due.STATE, () -> Towns.dead(Towns.votes(3, 2), 0), t -> t.strike());
        due.refused("all are dead", Due.STATE, () -> Towns.dead(Towns.votes(1, 0), 0), t -> t.strike());
        due.refused("closed", Due.STATE, () -> Towns.closed(Towns.votes(3, 2)), t -> t.strike());
        due.refused("closed in a strike", Due.STATE, () -> Towns.closed(Towns.striking(Towns.votes(3, 2))),
                t -> t.strike());
    }

    private static void give() {
        due.promise(25, "give");
        ScripHollow x = new ScripHollow();
        due.is("give(1)", x.give(1), 1);
        due.is("give(1000)", x.give(1000), 1001);
        due.is("after a close", Towns.closed(x).give(2), 1003);
        due.refused("give(0)", Due.ARGUMENT, () -> Towns.of(1), t -> t.give(0));
        due.refused("give(-1)", Due.ARGUMENT, () -> Towns.of(1), t -> t.give(-1));
        due.refused("give(1001)", Due.ARGUMENT, () -> Towns.of(1), t -> t.give(1001));
    }

    private static void soup() {
        due.promise(26, "soup");
        ScripHollow x = Towns.coined(30, 10, 20, 10, 5);
        Towns.pay(x, 0, 5, 0, 1, 30);
        Towns.striking(x);
        due.is("without a fund", x.soup(), 0);
        due.is("give(1)", x.give(1), 1);
        due.is("less than one costs", x.soup(), 0);
        x.give(1);
        due.is("the least: 10 and 1", x.soup(), 8);
        due.is("the fund is used", x.give(5), 5);
        due.is("two", x.soup(), 8 + 2);
        due.is("1 is left", x.give(6), 7);
        due.is("three", x.soup(), 8 + 2 + 4);
        due.is("1 is left", x.give(7), 8);
        due.is("four: 30 coin, ahead of 35", x.soup(), 15);
        x.give(100);
        due.is("all, one each", x.soup(), 31);
        due.is("90 are left", x.give(1), 91);
        x.die(1);
        due.is("not the dead", x.soup(), 29);
        due.is("nobody has more", x.about(3, 2), 10);
        ScripHollow same = Towns.striking(Towns.of(3));
        same.give(4);
        due.is("of several the lowest", same.soup(), 3);
        ScripHollow scrip = Towns.paid(9, 9, 8);
        Towns.striking(scrip).give(2);
        due.is("scrip counts", scrip.soup(), 4);
        due.refused("no strike", Due.STATE, () -> Towns.of(2), t -> t.soup());
        due.refused("closed", Due.STATE, () -> Towns.closed(Towns.striking(Towns.of(2))), t -> t.soup());
    }

    private static void close() {
        due.promise(27, "close");
        ScripHollow x = Towns.paid(30, 50);
        due.is("close(81)", x.close(81), 1);
        due.is("coin for scrip", x.about(0, 2), 30);
        due.is("coin for scrip", x.about(1, 2), 50);
        due.is("all scrip is gone", x.about(0, 3), 0);
        due.is("of its issue too", x.scrip(1, 0), 0);
        due.is("anew", x.scripAnew(1), 0);
        due.is("what was gone", x.books(5), 80);
        due.is("just as much", Towns.paid(30, 50).close(80), 0);
        due.is("without scrip", Towns.of(2).close(100000), 100000);
        due.is("close(0)", Towns.paid(5).close(0), 0);
        ScripHollow strike = Towns.striking(Towns.of(1));
        strike.close(0);
        due.is("a strike ends", Due.answer(() -> strike.soup()), Due.THREW_STATE);
        due.refused("close(-1)", Due.ARGUMENT, () -> Towns.closed(Towns.paid(5)), t -> t.close(-1));
        due.refused("close(100001)", Due.ARGUMENT, () -> Towns.paid(5), t -> t.close(100001));
        due.refused("closed", Due.STATE, () -> Towns.closed(Towns.paid(5)), t -> t.close(5));
    }

    private static void closeInParts() {
        due.promise(27, "close, in parts");
        ScripHollow x = Towns.of(3);
        Towns.pay(x, 10, 20, 0);
        Towns.pay(x, 10, 10, 10);
        Towns.pay(x, 7, 0, 1);
        // Issue 0: 30 of 59. Issue 1: 29 for 30, each gets 10 * 29 / 30 = 9, 2 are left. Issue 2: 2 for 8.
        due.is("close(59)", x.close(59), 1);
        due.is("what 0 has", x.about(0, 2), 10 + 9 + 1);
        due.is("what 1 has", x.about(1, 2), 20 + 9);
        due.is("what 2 has", x.about(2, 2), 9 + 0);
        due.is("what was gone", x.books(5), 68);
        ScripHollow first = Towns.of(2);
        Towns.pay(first, 50, 49);
        Towns.pay(first, 1, 0);
        due.is("rounding leaves 1, which is enough for the next", first.close(98), 0);
        due.is("50 * 98 / 99 and 1", first.about(0, 2), 49 + 1);
        due.is("49 * 98 / 99", first.about(1, 2), 48);
    }

    /** Where an int would not hold what one has times the money. */
    private static void closeLarge() {
        due.promise(27, "close, large");
        ScripHollow x = Towns.of(2);
        x.tell(0, 50);
        Towns.pay(x, 30000, 10000);
        due.is("scrip", x.about(0, 3), 150000);
        due.is("close(100000)", x.close(100000), 0);
        due.is("coin", x.about(0, 2), 75000);
        due.is("coin", x.about(1, 2), 25000);
    }
}
