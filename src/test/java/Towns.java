/** Towns as the tests begin with them: no dock, no rent, so that a wage is what was hewn. */
final class Towns {
    private Towns() {
    }

    static ScripHollow of(int miners) {
        ScripHollow x = new ScripHollow();
        for (int m = 0; m < miners; m++) {
            x.miner();
        }
        x.check(true);
        x.tell(ScripHollow.RENT, 0);
        return x;
    }

    /** Each miner has so much scrip of the issue 0. */
    static ScripHollow paid(int... amounts) {
        ScripHollow x = of(amounts.length);
        pay(x, amounts);
        return x;
    }

    /** Each miner has so much coin, and a payday was. */
    static ScripHollow coined(int... amounts) {
        ScripHollow x = of(amounts.length);
        payCoin(x, amounts);
        return x;
    }

    static int pay(ScripHollow x, int... amounts) {
        for (int m = 0; m < amounts.length; m++) {
            for (int left = amounts[m]; left > 0; left -= 1000) {
                x.hew(m, Math.min(left, 1000));
            }
        }
        return x.payday();
    }

    static int payCoin(ScripHollow x, int... amounts) {
        boolean law = x.law(ScripHollow.TRUCK, true);
        boolean obey = x.obey(true);
        int paid = pay(x, amounts);
        x.law(ScripHollow.TRUCK, law);
        x.obey(obey);
        return paid;
    }

    /** One miner with this debt, and with neither scrip nor coin. */
    static ScripHollow indebted(int debt) {
        ScripHollow x = of(1);
        x.limit(1000);
        x.price(0, 1, false);
        while (x.about(0, 4) < debt) {
            int part = Math.min(50, (debt - x.about(0, 4)) / x.raised(0, 0));
            x.buy(0, 0, Math.max(part, 1));
        }
        x.price(0, 10, false);
        x.limit(200);
        return x;
    }

    static ScripHollow striking(ScripHollow x) {
        x.vote(0, true);
        for (int m = 1; Due.answer(() -> x.strike() ? 1 : 0) < 0; m++) {
            x.vote(m, true);
        }
        return x;
    }

    static ScripHollow closed(ScripHollow x) {
        x.close(0);
        return x;
    }

    static ScripHollow dead(ScripHollow x, int miner) {
        x.die(miner);
        return x;
    }
}
