/** Towns as the tests begin with them: no dock, no rent, so that a wage is what was hewn. */
final class Towns {
    private Towns() {
    }

    static ScripHollow of(int miners) {
        ScripHollow x = new ScripHollow();
        for (int m = 0; m < miners; m++) {
            x.miner();
        }
        x.check(true);
        x.tell(ScripHollow.RENT, 0);
        return x;
    }

    /** Each miner has so much scrip of the issue 0. */
    static ScripHollow paid(int... amounts) {
        ScripHollow x = of(amounts.length);
        pay(x, amounts);
        return x;
    }

    /** Each miner has so much coin, and a payday was. */
    static ScripHollow coined(int... amounts) {
        ScripHollow x = of(amounts.length);
        payCoin(x, amounts);
        return x;
    }

    static int pay(ScripHollow x, int... amounts) {
        for (int m = 0; m < amounts.length; m++) {
            for (int left = amounts[m]; left > 0; left -= 1000) {
                x.hew(m, Math.min(left, 1000));
            }
        }
        return x.payday();
    }

    static int payCoin(ScripHollow x, int... amounts) {
        boolean law = x.law(ScripHollow.TRUCK, true);
        boolean obey = x.obey(true);
        int paid = pay(x, amounts);
        x.law(ScripHollow.TRUCK, law);
        x.obey(obey);
        return paid;
    }

    /** One miner with this debt, and with neither scrip nor coin. */
    static ScripHollow indebted(int debt) {
        ScripHollow x = of(1);
        x.limit(1000);
        x.price(0, 1, false);
        while (x.about(0, 4) < debt) {
            int part = Math.min(50, (debt - x.about(0, 4)) / x.raised(0, 0));
            x.buy(0, 0, Math.max(part, 1));
        }
        x.price(0, 10, false);
        x.limit(200);
        return x;
    }

    /** One miner with a house and these arrears, at most 100; the rent is 0. */
    static ScripHollow inArrears(int arrears) {
        ScripHollow x = of(1);
        x.tell(ScripHollow.RENT, arrears);
        x.payday();
        x.tell(ScripHollow.RENT, 0);
        return x;
    }

    /** All have lost the house and paid their arrears since; the rent is 0. */
    static ScripHollow homeless(int miners) {
        ScripHollow x = of(miners);
        x.tell(ScripHollow.RENT, 100);
        x.payday();
        x.tell(ScripHollow.RENT, 1);
        x.payday();
        for (int m = 0; m < miners; m++) {
            x.hew(m, 101);
        }
        x.payday();
        x.tell(ScripHollow.RENT, 0);
        return x;
    }

    static ScripHollow afterPaydays(int count) {
        ScripHollow x = of(1);
        for (int k = 0; k < count; k++) {
            x.payday();
        }
        return x;
    }

    /** The first ones are for a strike, the others are not. */
    static ScripHollow votes(int isFor, int isNot) {
        ScripHollow x = of(isFor + isNot);
        for (int m = 0; m < isFor; m++) {
            x.vote(m, true);
        }
        return x;
    }

    /**
     * The miner 0, whose kin is 1, has coin 11, scrip 13 and 15 of the issues 1 and 2, a debt of 52, arrears of 7,
     * 2 and 3 of the goods 0 and 2, and coal; 1 has coin 12, scrip 14 and 16 of the issues 1 and 2, a debt of 40,
     * arrears of 7, and 4 of the goods 2.
     */
    static ScripHollow estate() {
        ScripHollow x = of(2);
        x.edition(0);
        x.limit(1000);
        x.buy(0, 2, 3);
        x.buy(0, 0, 2);
        x.buy(1, 2, 4);
        payCoin(x, 11, 12);
        pay(x, 13, 14);
        x.tell(1, 7);
        pay(x, 15, 16);
        x.hew(0, 99);
        x.kin(0, 1);
        return x;
    }

    static ScripHollow striking(ScripHollow x) {
        x.vote(0, true);
        for (int m = 1; Due.answer(() -> x.strike() ? 1 : 0) < 0; m++) {
            x.vote(m, true);
        }
        return x;
    }

    static ScripHollow closed(ScripHollow x) {
        x.close(0);
        return x;
    }

    static ScripHollow dead(ScripHollow x, int miner) {
        x.die(miner);
        return x;
    }
}
