/** Promises 22 to 27 at their edges, case by case: death, strikes, closing. */
public final class EndEdgeTest {
    private static final int NONE = ScripHollow.NONE;
    private static final Due due = new Due();

    public static void main(String[] args) {
        heirs();
        heirsRound();
        heirsGets();
        heirsGetsNot();
        deathLaw();
        noHeir();
        dieLater();
        dieRefused();
        vote();
        strikeBegins();
        strikeEnds();
        give();
        soupFund();
        soupOrder();
        soupRefused();
        closeShares();
        closeIssueByIssue();
        closeAll();
        closeAfter();
        closeRefused();
        due.end();
    }

    /** The kin of each is the number given in its turn; those named after it are dead. */
    private static ScripHollow kinOf(int[] kin, int... dead) {
        ScripHollow x = Towns.of(kin.length);
        for (int m = 0; m < kin.length; m++) {
            x.kin(m, kin[m]);
        }
        for (int m : dead) {
            x.die(m);
        }
        return x;
    }

    private static void heirs() {
        due.promise(22, "die, the heir");
        due.gives("no kin", NONE, () -> kinOf(new int[] {NONE, 0}), x -> x.die(0));
        due.gives("the kin is alive", 2, () -> kinOf(new int[] {2, NONE, 1}), x -> x.die(0));
        due.gives("the first, of the last", 0, () -> kinOf(new int[] {NONE, NONE, 0}), x -> x.die(2));
        due.gives("the last, of the first", 9, () -> kinOf(new int[] {9, -1, -1, -1, -1, -1, -1, -1, -1, -1}),
                x -> x.die(0));
        due.gives("the kin of the kin, who is dead", 2, () -> kinOf(new int[] {1, 2, NONE}, 1), x -> x.die(0));
        due.gives("the kin, not the kin's kin, where both are alive", 1, () -> kinOf(new int[] {1, 2, NONE}),
                x -> x.die(0));
        due.gives("the row ends with one dead", NONE, () -> kinOf(new int[] {1, 2, NONE}, 1, 2), x -> x.die(0));
        due.gives("the longest row, eight dead and the last alive", 9,
                () -> kinOf(new int[] {1, 2, 3, 4, 5, 6, 7, 8, 9, -1}, 1, 2, 3, 4, 5, 6, 7, 8), x -> x.die(0));
        due.gives("the longest row, nine dead", NONE,
                () -> kinOf(new int[] {1, 2, 3, 4, 5, 6, 7, 8, 9, -1}, 1, 2, 3, 4, 5, 6, 7, 8, 9), x -> x.die(0));
        due.gives("the longest row, downwards", 0,
                () -> kinOf(new int[] {-1, 0, 1, 2, 3, 4, 5, 6, 7, 8}, 1, 2, 3, 4, 5, 6, 7, 8), x -> x.die(9));
        due.gives("nobody else is there", NONE, () -> Towns.of(1), x -> x.die(0));
        due.gives("to be the kin of one makes that one no heir", NONE,
                () -> kinOf(new int[] {NONE, 0, 0}), x -> x.die(0));
    }

    private static void heirsRound() {
        due.promise(22, "die, the row comes to one that was met");
        due.gives("a ring of two, the other alive", 1, () -> kinOf(new int[] {1, 0}), x -> x.die(0));
        due.gives("a ring of two, the other dead", NONE, () -> kinOf(new int[] {1, 0}, 1), x -> x.die(0));
        due.gives("a ring of three, the last alive", 2, () -> kinOf(new int[] {1, 2, 0}, 1), x -> x.die(0));
        due.gives("a ring of three, both dead", NONE, () -> kinOf(new int[] {1, 2, 0}, 1, 2), x -> x.die(0));
        due.gives("a ring that one is not in, all dead", NONE, () -> kinOf(new int[] {1, 2, 1}, 1, 2), x -> x.die(0));
        due.gives("a ring that one is not in, one alive", 2, () -> kinOf(new int[] {1, 2, 1}, 1), x -> x.die(0));
        due.gives("a ring of ten, the last alive", 9,
                () -> kinOf(new int[] {1, 2, 3, 4, 5, 6, 7, 8, 9, 0}, 1, 2, 3, 4, 5, 6, 7, 8), x -> x.die(0));
        due.gives("a ring of ten, all dead", NONE,
                () -> kinOf(new int[] {1, 2, 3, 4, 5, 6, 7, 8, 9, 0}, 1, 2, 3, 4, 5, 6, 7, 8, 9), x -> x.die(0));
        due.gives("a ring at the end of the longest row", NONE,
                () -> kinOf(new int[] {1, 2, 3, 4, 5, 6, 7, 8, 9, 8}, 1, 2, 3, 4, 5, 6, 7, 8, 9), x -> x.die(0));
    }

    private static ScripHollow inherited() {
        ScripHollow x = Towns.estate();
        x.die(0);
        return x;
    }

    private static void heirsGets() {
        due.promise(22, "die, what the heir gets");
        due.gives("all coin, besides their own", 11 + 12, EndEdgeTest::inherited, x -> x.about(1, 2));
        due.gives("scrip by its issue 1", 13 + 14, EndEdgeTest::inherited, x -> x.scrip(1, 1));
        due.gives("scrip by its issue 2", 15 + 16, EndEdgeTest::inherited, x -> x.scrip(1, 2));
        due.gives("all scrip", 58, EndEdgeTest::inherited, x -> x.about(1, 3));
        due.gives("all scrip, anew", 58, EndEdgeTest::inherited, x -> x.scripAnew(1));
        due.gives("goods 0, of which they had none", 2, EndEdgeTest::inherited, x -> x.has(1, 0));
        due.gives("goods 2, besides their own", 3 + 4, EndEdgeTest::inherited, x -> x.has(1, 2));
        due.gives("the debt, besides their own", 52 + 40, EndEdgeTest::inherited, x -> x.about(1, 4));
        due.gives("the arrears, besides their own", 7 + 7, EndEdgeTest::inherited, x -> x.about(1, 5));
        int[] left = {0, 0, 0, 0, 0, 0, 0};
        String[] names = {"alive", "coal", "coin", "scrip", "debt", "arrears", "a house"};
        for (int what = 0; what < left.length; what++) {
            int w = what;
            due.gives("the dead has nothing: " + names[what], left[what], EndEdgeTest::inherited, x -> x.about(0, w));
        }
        due.gives("the dead has nothing: goods", 0, EndEdgeTest::inherited, x -> x.has(0, 0) + x.has(0, 2));
        due.gives("the dead has nothing: scrip of the issue 2", 0, EndEdgeTest::inherited, x -> x.scrip(0, 2));
        due.gives("the dead has nothing: scrip, anew", 0, EndEdgeTest::inherited, x -> x.scripAnew(0));
        due.test("scrip of the last issue, and the last of the goods", () -> {
            ScripHollow x = Towns.of(2);
            x.kin(0, 1);
            for (int k = 0; k < 39; k++) {
                x.payday();
            }
            Towns.pay(x, 20, 0);
            x.buy(0, 3, 1);
            x.die(0);
            due.is("the issue 39", x.scrip(1, 39), 10);
            due.is("goods 3", x.has(1, 3), 1);
        });
        due.test("the heir of the heir gets all of it", () -> {
            ScripHollow x = inherited();
            x.kin(1, x.miner());
            due.is("die(1)", x.die(1), 2);
            due.is("scrip", x.about(2, 3), 58);
            due.is("debt", x.about(2, 4), 92);
        });
    }

    private static void heirsGetsNot() {
        due.promise(22, "die, what no heir gets");
        due.gives("the coal", 0, EndEdgeTest::inherited, x -> x.about(1, 1));
        due.gives("what is owed by law", 0, EndEdgeTest::owedToDead, x -> x.about(1, 7));
        due.gives("the latest pay", 16, EndEdgeTest::inherited, x -> x.about(1, 8));
        due.gives("the kin", NONE, EndEdgeTest::inherited, x -> x.about(1, 9));
        due.gives("the house", 0, EndEdgeTest::houseOfDead, x -> x.about(1, 6));
        due.gives("to be for a strike", 0, EndEdgeTest::voteOfDead, x -> Due.bit(x.vote(1, false)));
        due.gives("nothing is gone where an heir is", 0, EndEdgeTest::inherited, x -> x.books(4));
        due.gives("the scrip that was paid stays told", 58, EndEdgeTest::inherited, x -> x.books(0));
    }

    private static ScripHollow owedToFirst() {
        ScripHollow x = Towns.of(2);
        x.kin(0, 1);
        x.law(ScripHollow.TRUCK, true);
        Towns.pay(x, 9, 0);
        return x;
    }

    private static ScripHollow owedToDead() {
        return Towns.dead(owedToFirst(), 0);
    }

    /** The miner 0 had a house, the heir 1 has none. */
    private static ScripHollow houseOfDead() {
        ScripHollow x = Towns.homeless(2);
        x.house(0);
        x.kin(0, 1);
        x.die(0);
        return x;
    }

    private static ScripHollow voteOfDead() {
        ScripHollow x = Towns.of(2);
        x.vote(0, true);
        x.kin(0, 1);
        x.die(0);
        return x;
    }

    private static ScripHollow diedUnderLaw(boolean isObeyed) {
        ScripHollow x = Towns.estate();
        x.law(ScripHollow.DEATH, true);
        x.obey(isObeyed);
        x.die(0);
        return x;
    }

    private static void deathLaw() {
        for (boolean is : new boolean[] {false, true}) {
            due.promise(22, "die, DEATH in force, " + (is ? "obeyed" : "not obeyed"));
            due.gives("no debt comes", 40, () -> diedUnderLaw(is), x -> x.about(1, 4));
            due.gives("no arrears come", 7, () -> diedUnderLaw(is), x -> x.about(1, 5));
            due.gives("the debt is gone", 0, () -> diedUnderLaw(is), x -> x.about(0, 4));
            due.gives("the arrears are gone", 0, () -> diedUnderLaw(is), x -> x.about(0, 5));
            due.gives("coin comes", 23, () -> diedUnderLaw(is), x -> x.about(1, 2));
            due.gives("scrip comes", 58, () -> diedUnderLaw(is), x -> x.about(1, 3));
            due.gives("goods come", 7, () -> diedUnderLaw(is), x -> x.has(1, 2));
            due.gives("no breach", 0, () -> diedUnderLaw(is), x -> x.breaches());
        }
        due.promise(22, "die, DEATH not in force");
        due.gives("obeyed: the debt comes", 92, () -> diedWith(x -> x.obey(true)), x -> x.about(1, 4));
        due.gives("obeyed: the arrears come", 14, () -> diedWith(x -> x.obey(true)), x -> x.about(1, 5));
        due.gives("the other laws in force: the debt comes", 92, () -> diedWith(x -> {
            x.law(ScripHollow.TRUCK, true);
            x.law(ScripHollow.DEDUCTION, true);
        }), x -> x.about(1, 4));
        due.gives("not any more: the debt comes", 92, () -> diedWith(x -> {
            x.law(ScripHollow.DEATH, true);
            x.law(ScripHollow.DEATH, false);
        }), x -> x.about(1, 4));
        due.gives("in force only since: the debt has come", 92, EndEdgeTest::inherited, x -> {
            x.law(ScripHollow.DEATH, true);
            return x.about(1, 4);
        });
    }

    private static ScripHollow diedWith(Due.Call ahead) {
        ScripHollow x = Towns.estate();
        ahead.on(x);
        x.die(0);
        return x;
    }

    private static void noHeir() {
        due.promise(22, "die, without an heir");
        due.gives("all scrip is gone", 28, () -> diedWith(x -> x.kin(0, NONE)), x -> x.books(4));
        due.gives("none of it expired", 0, () -> diedWith(x -> x.kin(0, NONE)), x -> x.books(3));
        due.gives("without scrip nothing is gone", 0, () -> Towns.dead(Towns.coined(9), 0), x -> x.books(4));
        due.gives("of two, all scrip of both", 58, () -> diedWith(x -> x.kin(0, NONE)), x -> {
            x.die(1);
            return x.books(4);
        });
        String[] names = {"alive", "coal", "coin", "scrip", "debt", "arrears", "a house"};
        for (int what = 0; what < names.length; what++) {
            int w = what;
            due.gives("gone: " + names[what], 0, () -> diedWith(x -> x.kin(0, NONE)), x -> x.about(0, w));
        }
        due.gives("gone: goods", 0, () -> diedWith(x -> x.kin(0, NONE)), x -> x.has(0, 0) + x.has(0, 2));
        due.gives("the other's debt stays", 40, () -> diedWith(x -> x.kin(0, NONE)), x -> x.about(1, 4));
        due.gives("the other's scrip stays", 30, () -> diedWith(x -> x.kin(0, NONE)), x -> x.about(1, 3));
    }

    private static void dieLater() {
        due.promise(22, "die, what comes of it");
        due.gives("arrears that come can take the house", 0, EndEdgeTest::inherited, x -> {
            x.tell(ScripHollow.RENT, 4);
            x.payday();
            return x.about(1, 6);
        });
        due.gives("a debt that comes can be above the limit", 3, EndEdgeTest::inherited, x -> {
            x.limit(91);
            return x.whyNot(1, 0, 50);
        });
        due.gives("a debt that comes raises prices", 14, EndEdgeTest::inherited, x -> x.raised(1, 0));
        due.gives("who is kin is told when one dies, not before", 2, () -> kinOf(new int[] {1, NONE, NONE}, 1), x -> {
            x.kin(1, 2);
            return x.die(0);
        });
        due.gives("in a strike", 1, () -> Towns.striking(kinOf(new int[] {1, NONE})), x -> x.die(0));
        due.gives("in a closed mine", 1, () -> Towns.closed(kinOf(new int[] {1, NONE})), x -> x.die(0));
        due.gives("in a closed mine the coin comes", 5 + 6, EndEdgeTest::closedWithCoin, x -> {
            x.die(0);
            return x.about(1, 2);
        });
    }

    private static ScripHollow closedWithCoin() {
        ScripHollow x = Towns.paid(5, 6);
        x.kin(0, 1);
        x.close(11);
        return x;
    }

    private static void dieRefused() {
        due.promise(22, "die, refused");
        due.refused("a second time, with an heir", Due.STATE, EndEdgeTest::inherited, x -> x.die(0));
        due.refused("a second time, without an heir", Due.STATE, () -> Towns.dead(Towns.of(1), 0), x -> x.die(0));
        due.refused("2, the first above the last", Due.INDEX, Towns::estate, x -> x.die(2));
        due.refused("-1, the first below", Due.INDEX, Towns::estate, x -> x.die(-1));
        due.refused("without miners", Due.INDEX, ScripHollow::new, x -> x.die(0));
    }

    private static void vote() {
        due.promise(23, "vote");
        due.gives("not at first", 0, () -> Towns.of(1), x -> Due.bit(x.vote(0, false)));
        due.gives("for it, and once more", 1, () -> Towns.votes(1, 0), x -> Due.bit(x.vote(0, true)));
        due.gives("for it, and not any more", 0, () -> Towns.votes(1, 0), x -> {
            x.vote(0, false);
            return Due.bit(x.vote(0, true));
        });
        due.gives("0, the first, by themselves", 0, () -> Towns.votes(1, 9), x -> Due.bit(x.vote(9, true)));
        due.gives("9, the last", 1, () -> Towns.votes(10, 0), x -> Due.bit(x.vote(9, true)));
        due.gives("one dead is still told", 1, () -> Towns.dead(Towns.votes(1, 0), 0), x -> Due.bit(x.vote(0, true)));
        due.gives("one dead can be told", 1, () -> Towns.dead(Towns.of(1), 0), x -> {
            x.vote(0, true);
            return Due.bit(x.vote(0, true));
        });
        due.gives("it begins no strike", Due.THREW_STATE, () -> Towns.votes(10, 0), x -> Due.answer(() -> x.soup()));
        due.gives("it ends no strike", 0, () -> Towns.striking(Towns.of(1)), x -> {
            x.vote(0, false);
            return x.soup();
        });
        due.gives("in a closed mine", 1, () -> Towns.closed(Towns.votes(1, 0)), x -> Due.bit(x.vote(0, false)));
        due.refused("without miners", Due.INDEX, ScripHollow::new, x -> x.vote(0, true));
        due.refused("1, the first above the last", Due.INDEX, () -> Towns.of(1), x -> x.vote(1, true));
    }

    private static ScripHollow withDead(int isFor, int isNot, int... dead) {
        ScripHollow x = Towns.votes(isFor, isNot);
        for (int m : dead) {
            x.die(m);
        }
        return x;
    }

    private static void strikeBegins() {
        due.promise(24, "strike, whether it can begin");
        int[][] can = {{1, 0}, {2, 1}, {3, 2}, {6, 4}, {10, 0}, {2, 0}};
        for (int[] one : can) {
            due.gives(one[0] + " for it, " + one[1] + " not", 1, () -> Towns.votes(one[0], one[1]),
                    x -> Due.bit(x.strike()));
        }
        int[][] cannot = {{0, 0}, {0, 1}, {1, 1}, {1, 2}, {2, 2}, {5, 5}, {4, 6}, {0, 10}};
        for (int[] one : cannot) {
            due.refused(one[0] + " for it, " + one[1] + " not", Due.STATE, () -> Towns.votes(one[0], one[1]),
                    x -> x.strike());
        }
        due.gives("2 and 2, one that is not being dead", 1, () -> withDead(2, 2, 3), x -> Due.bit(x.strike()));
        due.refused("2 and 1, one that is for it being dead", Due.STATE, () -> withDead(2, 1, 0), x -> x.strike());
        due.refused("all that are for it being dead", Due.STATE, () -> withDead(2, 1, 0, 1), x -> x.strike());
        due.refused("all being dead", Due.STATE, () -> withDead(2, 0, 0, 1), x -> x.strike());
        due.refused("one told since, who is not for it", Due.STATE, () -> votesAndOne(), x -> x.strike());
        due.refused("the mine closed, all for it", Due.STATE, () -> Towns.closed(Towns.votes(10, 0)), x -> x.strike());
        due.refused("the mine closed, nobody for it", Due.STATE, () -> Towns.closed(Towns.of(3)), x -> x.strike());
    }

    private static ScripHollow votesAndOne() {
        ScripHollow x = Towns.votes(1, 0);
        x.miner();
        return x;
    }

    private static void strikeEnds() {
        due.promise(24, "strike, its end");
        due.gives("it ends", 0, () -> Towns.striking(Towns.of(1)), x -> Due.bit(x.strike()));
        due.gives("it ends, with nobody for it any more", 0, () -> Towns.striking(Towns.of(1)), x -> {
            x.vote(0, false);
            return Due.bit(x.strike());
        });
        due.gives("it ends, with nobody alive any more", 0, () -> Towns.striking(Towns.of(1)), x -> {
            x.die(0);
            return Due.bit(x.strike());
        });
        due.gives("when it has ended, one begins", 1, () -> Towns.striking(Towns.of(1)), x -> {
            x.strike();
            return Due.bit(x.strike());
        });
        due.refused("when it has ended, none begins with nobody for it", Due.STATE, EndEdgeTest::endedWithNone,
                x -> x.strike());
        due.refused("the mine closed in it: none is there to end", Due.STATE,
                () -> Towns.closed(Towns.striking(Towns.of(1))), x -> x.strike());
    }

    private static ScripHollow endedWithNone() {
        ScripHollow x = Towns.striking(Towns.of(1));
        x.strike();
        x.vote(0, false);
        return x;
    }

    private static void give() {
        due.promise(25, "give");
        due.gives("1, the least", 1, ScripHollow::new, x -> x.give(1));
        due.gives("1000, the most", 1000, ScripHollow::new, x -> x.give(1000));
        due.gives("all of it together", 1001, ScripHollow::new, x -> {
            x.give(1000);
            return x.give(1);
        });
        due.gives("without a bound", 300000, ScripHollow::new, x -> {
            for (int k = 1; k < 300; k++) {
                x.give(1000);
            }
            return x.give(1000);
        });
        due.gives("in a closed mine", 5, () -> Towns.closed(Towns.of(1)), x -> x.give(5));
        due.refused("0 is the first that is refused below", Due.ARGUMENT, ScripHollow::new, x -> x.give(0));
        due.refused("1001 is the first that is refused above", Due.ARGUMENT, ScripHollow::new, x -> x.give(1001));
        due.refused("below 0 takes nothing away", Due.ARGUMENT, () -> funded(5, 1), x -> x.give(-5));
    }

    /** A strike of so many miners, all alike, with so much in the fund. */
    private static ScripHollow funded(int fund, int miners) {
        ScripHollow x = Towns.striking(Towns.of(miners));
        for (int left = fund; left > 0; left -= 1000) {
            x.give(Math.min(left, 1000));
        }
        return x;
    }

    private static void served(String name, int fund, int miners, int bits, int left) {
        due.test(name, () -> {
            ScripHollow x = funded(fund, miners);
            due.is("soup", x.soup(), bits);
            due.is("the fund and 1", x.give(1), left + 1);
        });
    }

    private static void soupFund() {
        due.promise(26, "soup, the fund");
        served("0: nobody", 0, 3, 0, 0);
        served("1: nobody, and it stays", 1, 3, 0, 1);
        served("2: one", 2, 3, 1, 0);
        served("3: one, 1 is left", 3, 3, 1, 1);
        served("4: two", 4, 3, 3, 0);
        served("5: all of three but one, 1 is left", 5, 3, 3, 1);
        served("6: all of three, just enough", 6, 3, 7, 0);
        served("7: all of three, 1 is left", 7, 3, 7, 1);
        served("8: one each, 2 are left", 8, 3, 7, 2);
        served("18: all of ten but the last", 18, 10, 511, 0);
        served("19: all of ten but the last, 1 is left", 19, 10, 511, 1);
        served("20: all of ten", 20, 10, 1023, 0);
        served("2000: all of ten, the rest is left", 2000, 10, 1023, 1980);
        served("100 and one miner: one", 100, 1, 1, 98);
        due.gives("also for those without a house", 3, EndEdgeTest::homelessInStrike, x -> x.soup());
        due.gives("none for the dead", 2, () -> Towns.dead(funded(100, 2), 0), x -> x.soup());
        due.gives("nobody alive: nobody", 0, () -> Towns.dead(funded(100, 1), 0), x -> x.soup());
        due.gives("nobody alive: the fund stays", 101, () -> Towns.dead(funded(100, 1), 0), x -> {
            x.soup();
            return x.give(1);
        });
        due.gives("again, as long as the fund has 2", 1, () -> funded(4, 1), x -> {
            x.soup();
            return x.soup();
        });
        due.gives("no third time", 0, () -> funded(4, 1), x -> {
            x.soup();
            x.soup();
            return x.soup();
        });
    }

    private static ScripHollow homelessInStrike() {
        ScripHollow x = Towns.striking(Towns.homeless(2));
        x.give(4);
        return x;
    }

    /** A strike in which the fund has 2; each has so much scrip and coin. */
    private static ScripHollow hungry(int[] scrip, int[] coin) {
        ScripHollow x = Towns.of(scrip.length);
        Towns.payCoin(x, coin);
        Towns.pay(x, scrip);
        Towns.striking(x);
        x.give(2);
        return x;
    }

    private static void soupOrder() {
        due.promise(26, "soup, the order");
        due.gives("the least coin", 4, () -> hungry(new int[] {0, 0, 0}, new int[] {9, 9, 8}), x -> x.soup());
        due.gives("the least scrip", 4, () -> hungry(new int[] {9, 9, 8}, new int[] {0, 0, 0}), x -> x.soup());
        due.gives("the least of both together", 2, () -> hungry(new int[] {9, 4, 0}, new int[] {0, 4, 9}),
                x -> x.soup());
        due.gives("alike, the lowest of all", 1, () -> hungry(new int[] {5, 5, 5}, new int[] {5, 5, 5}), x -> x.soup());
        due.gives("alike, the lowest of two behind one who has more", 2,
                () -> hungry(new int[] {6, 5, 5}, new int[] {0, 0, 0}), x -> x.soup());
        due.gives("alike, one in coin and one in scrip", 1, () -> hungry(new int[] {5, 0}, new int[] {0, 5}),
                x -> x.soup());
        due.gives("nothing is the least", 4, () -> hungry(new int[] {1, 1, 0}, new int[] {0, 0, 0}), x -> x.soup());
        due.gives("the last of ten", 512, () -> hungry(new int[] {9, 9, 9, 9, 9, 9, 9, 9, 9, 8}, new int[10]),
                x -> x.soup());
        due.gives("two: the least and the next", 5, () -> hungry(new int[] {2, 3, 1}, new int[3]), x -> {
            x.give(2);
            return x.soup();
        });
        due.gives("two of three, the latter two alike", 6, () -> hungry(new int[] {7, 3, 3}, new int[3]), x -> {
            x.give(2);
            return x.soup();
        });
        due.gives("two of three, the first two alike", 5, () -> hungry(new int[] {3, 3, 1}, new int[3]), x -> {
            x.give(2);
            return x.soup();
        });
        due.gives("scrip of all issues", 2, EndEdgeTest::oldAndNewScrip, x -> x.soup());
        due.gives("goods and debt make nobody have more", 1, () -> goodsAndDebt(0), x -> x.soup());
        due.gives("goods and debt make nobody have less", 1, () -> goodsAndDebt(1), x -> x.soup());
        due.gives("coal does not count", 1, EndEdgeTest::coalOfTheFirst, x -> x.soup());
        due.gives("the least being dead, the next", 2, () -> Towns.dead(hungry(new int[] {1, 2, 3}, new int[3]), 0),
                x -> x.soup());
        due.gives("nobody has more by it", 1, () -> hungry(new int[] {1, 2, 3}, new int[3]), x -> {
            x.soup();
            return x.about(0, 2) + x.about(0, 3);
        });
    }

    private static ScripHollow oldAndNewScrip() {
        ScripHollow x = Towns.paid(5, 0);
        Towns.pay(x, 2, 6);
        Towns.striking(x);
        x.give(2);
        return x;
    }

    private static ScripHollow goodsAndDebt(int miner) {
        ScripHollow x = Towns.of(2);
        x.buy(miner, 0, 20);
        Towns.striking(x);
        x.give(2);
        return x;
    }

    private static ScripHollow coalOfTheFirst() {
        ScripHollow x = Towns.of(2);
        x.hew(0, 50);
        Towns.striking(x);
        x.give(2);
        return x;
    }

    private static void soupRefused() {
        due.promise(26, "soup, refused");
        due.refused("no strike, though there is a fund", Due.STATE, EndEdgeTest::fundAlone, x -> x.soup());
        due.refused("no strike, though all are for it", Due.STATE, () -> Towns.votes(3, 0), x -> x.soup());
        due.refused("the strike has ended", Due.STATE, EndEdgeTest::endedWithFund, x -> x.soup());
        due.refused("the mine closed in the strike", Due.STATE, () -> Towns.closed(funded(9, 3)), x -> x.soup());
        due.refused("without miners", Due.STATE, ScripHollow::new, x -> x.soup());
    }

    private static ScripHollow fundAlone() {
        ScripHollow x = Towns.of(3);
        x.give(9);
        return x;
    }

    private static ScripHollow endedWithFund() {
        ScripHollow x = funded(9, 3);
        x.strike();
        return x;
    }

    /** Of an issue that 0 and 1 have: the money, what each gets, what is left. */
    private static void shares(String name, int[] scrip, int money, int[] coin, int left) {
        due.test(name, () -> {
            ScripHollow x = Towns.paid(scrip);
            due.is("close", x.close(money), left);
            for (int m = 0; m < coin.length; m++) {
                due.is("coin of " + m, x.about(m, 2), coin[m]);
                due.is("scrip of " + m, x.about(m, 3), 0);
            }
        });
    }

    private static void closeShares() {
        due.promise(27, "close, one issue");
        shares("1 more than all scrip", new int[] {30, 50}, 81, new int[] {30, 50}, 1);
        shares("just as much as all scrip", new int[] {30, 50}, 80, new int[] {30, 50}, 0);
        shares("1 less than all scrip", new int[] {30, 50}, 79, new int[] {29, 49}, 1);
        shares("half of all scrip", new int[] {30, 50}, 40, new int[] {15, 25}, 0);
        shares("1, too little for any", new int[] {30, 50}, 1, new int[] {0, 0}, 1);
        shares("no money", new int[] {30, 50}, 0, new int[] {0, 0}, 0);
        shares("alike: each gets the same, the rest is left", new int[] {7, 7, 7}, 20, new int[] {6, 6, 6}, 2);
        shares("by the money as the issue begins, not as it gets less", new int[] {50, 50}, 50, new int[] {25, 25}, 0);
        shares("all of it of the last of ten", new int[] {0, 0, 0, 0, 0, 0, 0, 0, 0, 9}, 5,
                new int[] {0, 0, 0, 0, 0, 0, 0, 0, 0, 5}, 0);
        shares("scrip of 1 and money of 1", new int[] {1}, 1, new int[] {1}, 0);
        shares("scrip of 1 and no money", new int[] {1}, 0, new int[] {0}, 0);
        shares("100000, the most, and no scrip", new int[] {0, 0}, 100000, new int[] {0, 0}, 100000);
        due.test("a product beyond an int, rounded down", () -> {
            ScripHollow x = Towns.of(2);
            x.tell(0, 50);
            Towns.pay(x, 30001, 10000);
            due.is("close", x.close(100000), 1);
            due.is("coin of 0: 150005 of 200005", x.about(0, 2), 75000);
            due.is("coin of 1: 50000 of 200005", x.about(1, 2), 24999);
        });
        due.test("the most scrip that is paid in 400 calls", () -> {
            ScripHollow x = Towns.of(1);
            x.tell(0, 50);
            Towns.pay(x, 400000);
            due.is("close", x.close(99999), 0);
            due.is("coin", x.about(0, 2), 99999);
        });
        due.gives("without miners all is left", 100000, ScripHollow::new, x -> x.close(100000));
    }

    /** The issue 0 of the miner 0, the issue 1 of the miner 1, 10 each. */
    private static ScripHollow oneIssueEach() {
        ScripHollow x = Towns.paid(10, 0);
        Towns.pay(x, 0, 10);
        return x;
    }

    private static void inTurn(String name, int money, int first, int next, int left) {
        due.test(name, () -> {
            ScripHollow x = oneIssueEach();
            due.is("close", x.close(money), left);
            due.is("for the issue 0", x.about(0, 2), first);
            due.is("for the issue 1", x.about(1, 2), next);
        });
    }

    private static void closeIssueByIssue() {
        due.promise(27, "close, the lowest issue first");
        inTurn("enough for both", 21, 10, 10, 1);
        inTurn("just enough for both", 20, 10, 10, 0);
        inTurn("1 less", 19, 10, 9, 0);
        inTurn("1 more than for the first", 11, 10, 1, 0);
        inTurn("just enough for the first", 10, 10, 0, 0);
        inTurn("1 less than for the first", 9, 9, 0, 0);
        due.test("what rounding leaves goes to the next issue", () -> {
            ScripHollow x = Towns.paid(3, 3);
            Towns.pay(x, 0, 1);
            due.is("close", x.close(5), 0);
            due.is("coin of 0", x.about(0, 2), 2);
            due.is("coin of 1", x.about(1, 2), 2 + 1);
        });
        due.test("an issue between that nobody has", () -> {
            ScripHollow x = Towns.paid(10);
            x.payday();
            Towns.pay(x, 10);
            due.is("close", x.close(15), 0);
            due.is("coin", x.about(0, 2), 15);
        });
        due.test("the last issue", () -> {
            ScripHollow x = Towns.afterPaydays(39);
            Towns.pay(x, 10);
            due.is("close", x.close(9), 0);
            due.is("coin", x.about(0, 2), 9);
            due.is("scrip", x.scrip(0, 39), 0);
        });
        due.test("four issues, the last two in part", () -> {
            ScripHollow x = Towns.of(2);
            Towns.pay(x, 1, 2);
            Towns.pay(x, 4, 4);
            Towns.pay(x, 6, 3);
            Towns.pay(x, 9, 1);
            due.is("close: 3, 8, 7 for 9, of which 4 and 2, and 1 for 10", x.close(18), 1);
            due.is("coin of 0", x.about(0, 2), 1 + 4 + 4);
            due.is("coin of 1", x.about(1, 2), 2 + 4 + 2);
        });
    }

    private static ScripHollow closedFor(int money, ScripHollow x) {
        x.close(money);
        return x;
    }

    private static void closeAll() {
        due.promise(27, "close, what is gone");
        due.gives("scrip of each issue", 0, () -> closedFor(15, oneIssueEach()), x -> x.scrip(0, 0) + x.scrip(1, 1));
        due.gives("scrip, anew", 0, () -> closedFor(15, oneIssueEach()), x -> x.scripAnew(0) + x.scripAnew(1));
        due.gives("the books tell all scrip, what became coin and what did not", 20,
                () -> closedFor(15, oneIssueEach()), x -> x.books(5));
        due.gives("the books, without money", 20, () -> closedFor(0, oneIssueEach()), x -> x.books(5));
        due.gives("the books, with enough money", 20, () -> closedFor(100, oneIssueEach()), x -> x.books(5));
        due.gives("coin is more by it", 11 + 28, () -> closedFor(1000, Towns.estate()), x -> x.about(0, 2));
        due.gives("the debt stays", 52, () -> closedFor(1000, Towns.estate()), x -> x.about(0, 4));
        due.gives("the arrears stay", 7, () -> closedFor(1000, Towns.estate()), x -> x.about(0, 5));
        due.gives("the house stays", 1, () -> closedFor(1000, Towns.estate()), x -> x.about(0, 6));
        due.gives("the coal stays", 99, () -> closedFor(1000, Towns.estate()), x -> x.about(0, 1));
        due.gives("the goods stay", 3, () -> closedFor(1000, Towns.estate()), x -> x.has(0, 2));
        due.gives("the fund stays", 10, () -> closedFor(1000, funded(9, 1)), x -> x.give(1));
        due.gives("who is for a strike stays told", 1, () -> closedFor(1000, funded(9, 1)),
                x -> Due.bit(x.vote(0, false)));
        due.gives("what is owed by law stays", 9, () -> closedFor(1000, owedToFirst()), x -> x.about(0, 7));
        due.gives("the dead get nothing", 0, () -> closedFor(1000, Towns.dead(Towns.paid(9, 9), 0)),
                x -> x.about(0, 2));
        due.gives("expired scrip is not paid for", 100, EndEdgeTest::expired, x -> x.close(100));
    }

    private static ScripHollow expired() {
        ScripHollow x = Towns.paid(9);
        for (int k = 0; k < 4; k++) {
            x.payday();
        }
        return x;
    }

    private static void closeAfter() {
        due.promise(27, "close, what is then");
        due.gives("over the hill all is as before", 15, () -> closedFor(25, Towns.paid(25)), x -> x.over(0, 0, 1));
        due.refused("at the tavern there is no scrip", Due.STATE, () -> closedFor(25, Towns.paid(25)),
                x -> x.change(0, 1));
        due.gives("at death all is as before", 1, EndEdgeTest::closedWithCoin, x -> x.die(0));
        due.refused("nobody hews", Due.STATE, () -> closedFor(25, Towns.paid(25)), x -> x.hew(0, 1));
        due.refused("no payday", Due.STATE, () -> closedFor(25, Towns.paid(25)), x -> x.payday());
        due.refused("no strike begins", Due.STATE, () -> closedFor(25, Towns.votes(3, 0)), x -> x.strike());
        due.refused("a strike has ended by it", Due.STATE, () -> closedFor(25, funded(9, 3)), x -> x.soup());
        due.gives("the store is refused by 1", 1, () -> closedFor(25, Towns.paid(25)), x -> x.whyNot(0, 0, 1));
        due.gives("in a strike it closes", 0, () -> funded(9, 3), x -> x.close(0));
        due.gives("behind the last payday it closes", 4, () -> Towns.afterPaydays(40), x -> x.close(4));
    }

    private static void closeRefused() {
        due.promise(27, "close, refused");
        due.refused("a second time", Due.STATE, () -> closedFor(5, Towns.paid(25)), x -> x.close(5));
        due.refused("a second time, with no money", Due.STATE, () -> closedFor(5, Towns.paid(25)), x -> x.close(0));
        due.refused("-1 is the first that is refused below", Due.ARGUMENT, () -> Towns.paid(25), x -> x.close(-1));
        due.refused("100001 is the first that is refused above", Due.ARGUMENT, () -> Towns.paid(25),
                x -> x.close(100001));
        due.refused("-1, a second time", Due.ARGUMENT, () -> closedFor(5, Towns.paid(25)), x -> x.close(-1));
        due.refused("100001, a second time", Due.ARGUMENT, () -> closedFor(5, Towns.paid(25)), x -> x.close(100001));
        due.refused("-1 in a strike, which goes on", Due.ARGUMENT, () -> funded(9, 3), x -> x.close(-1));
        due.gives("when one was refused, it still closes once", 0, () -> Towns.paid(25), x -> {
            Due.answer(() -> x.close(-1));
            return x.close(5);
        });
    }
}
