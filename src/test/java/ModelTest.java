import java.util.Random;

/** Long runs of calls, drawn from a fixed seed, against the model: answers, exceptions, and all that can be asked. */
public final class ModelTest {
    private static final long INDEX = Due.THREW_INDEX, ARGUMENT = Due.THREW_ARGUMENT, STATE = Due.THREW_STATE;
    private static final int RUNS = 1500;
    /** An object answers 512 calls: all of them drawn, or some of them kept for a look at one miner at the end. */
    private static final int CALLS = 512, CALLS_AHEAD_OF_LOOK = 400;
    private static final Due due = new Due();

    private final Random random;
    private final ScripHollow x = new ScripHollow();
    private final Model model = new Model();
    /** In a wild run many arguments are out of their ranges. */
    private final boolean isWild;
    private String call = "";

    private ModelTest(long seed) {
        random = new Random(seed);
        isWild = seed % 3 == 0;
    }

    public static void main(String[] args) {
        for (int seed = 0; seed < RUNS; seed++) {
            new ModelTest(seed).run(seed);
        }
        due.end();
    }

    private void run(int seed) {
        boolean isLooking = seed % 4 != 0;
        for (int k = 0; k < (isLooking ? CALLS_AHEAD_OF_LOOK : CALLS); k++) {
            int kind = k < 5 ? 0 : pick();
            long[] answers = once(kind);
            due.is("seed " + seed + ", call " + k + ", " + call, answers[0], answers[1]);
            if (answers[0] != answers[1]) {
                return;
            }
        }
        if (isLooking && !model.people.isEmpty()) {
            look("seed " + seed + ", at the end, ", random.nextInt(model.people.size()));
        }
    }

    /** Hewing and paydays are drawn more often, what can not be undone more seldom. */
    private int pick() {
        int roll = random.nextInt(100);
        if (roll < 22) {
            return 4;
        }
        if (roll < 29) {
            return 7;
        }
        if (roll < 39) {
            return 12 + random.nextInt(3);
        }
        int kind = random.nextInt(32);
        boolean isRare = kind == 25 || kind == 20 || kind == 22;
        return isRare && random.nextInt(5) > 0 ? 30 : kind;
    }

    private int in(int least, int most) {
        int roll = random.nextInt(isWild ? 12 : 60);
        if (roll == 0) {
            return least - 1 - random.nextInt(2);
        }
        if (roll == 1) {
            return most + 1 + random.nextInt(2);
        }
        if (roll == 2) {
            return random.nextBoolean() ? least : most;
        }
        if (roll == 3 && isWild) {
            return random.nextInt();
        }
        return least + random.nextInt(most - least + 1);
    }

    private int someMiner() {
        return in(0, Math.max(model.people.size() - 1, 0));
    }

    private int someRow() {
        int row = 0;
        for (int digits = random.nextInt(7); digits > 0; digits--) {
            row = row * 10 + (isWild ? random.nextInt(7) : 1 + random.nextInt(5));
        }
        return random.nextInt(20) == 0 ? -row : row;
    }

    private boolean isNoMiner(int m) {
        return m < 0 || m >= model.people.size();
    }

    private static boolean isOut(int value, int least, int most) {
        return value < least || value > most;
    }

    /** What the class answers, and what is due. */
    private long[] once(int kind) {
        if (kind < 17) {
            return kind < 8 ? coalOrPayday(kind) : houseOrStore(kind);
        }
        return kind < 26 ? lawOrEnd(kind) : question(kind);
    }

    private long[] pair(Due.Answer got, long why, Due.Answer want) {
        return new long[] {Due.answer(got), why != 0 ? why : want.get()};
    }

    private long[] coalOrPayday(int kind) {
        int m = someMiner();
        switch (kind) {
            case 0:
                call = "miner()";
                return pair(() -> x.miner(), model.people.size() == 10 ? STATE : 0, () -> {
                    model.people.add(new Model.Person());
                    return model.people.size() - 1;
                });
            case 1: {
                int other = random.nextInt(8) == 0 ? -1 : someMiner();
                call = "kin(" + m + ", " + other + ")";
                long why = isNoMiner(m) || (other != -1 && isNoMiner(other)) ? INDEX : m == other ? ARGUMENT : 0;
                return pair(() -> x.kin(m, other), why, () -> {
                    long before = model.about(m, 9);
                    model.people.get(m).kin = other == -1 ? null : other;
                    return before;
                });
            }
            case 2: {
                int percent = in(0, 50);
                call = "dock(" + percent + ")";
                return pair(() -> x.dock(percent), isOut(percent, 0, 50) ? ARGUMENT : 0, () -> {
                    long before = model.dock;
                    model.dock = percent;
                    return before;
                });
            }
            case 3: {
                boolean is = random.nextBoolean();
                call = "check(" + is + ")";
                return pair(() -> x.check(is) ? 1 : 0, 0, () -> {
                    boolean before = model.checked;
                    model.checked = is;
                    return before ? 1 : 0;
                });
            }
            case 4: {
                int weight = random.nextInt(3) == 0 ? in(1, 1000) : in(1, 100);
                call = "hew(" + m + ", " + weight + ")";
                long why = isNoMiner(m) ? INDEX : isOut(weight, 1, 1000) ? ARGUMENT
                        : !model.people.get(m).alive || model.striking || model.closed ? STATE : 0;
                return pair(() -> x.hew(m, weight), why, () -> model.hew(m, weight));
            }
            case 5: {
                int row = someRow();
                call = "edition(" + row + ")";
                boolean isRow = row == 0 || (row > 0 && String.valueOf(row).matches("(?:([1-5])(?!.*\\1))+"));
                return pair(() -> x.edition(row), isRow ? 0 : ARGUMENT, () -> {
                    long before = Long.parseLong(model.edition);
                    model.edition = String.valueOf(row);
                    return before;
                });
            }
            case 6: {
                int what = in(0, 4);
                int amount = what == 0 ? in(1, 50) : random.nextInt(4) == 0 ? in(0, 100) : in(0, 20);
                call = "tell(" + what + ", " + amount + ")";
                boolean isWrong = isOut(what, 0, 4) || (what == 0 ? isOut(amount, 1, 50) : isOut(amount, 0, 100));
                return pair(() -> x.tell(what, amount), isWrong ? ARGUMENT : 0, () -> {
                    long before = model.told[what];
                    model.told[what] = amount;
                    return before;
                });
            }
            default:
                call = "payday()";
                return pair(() -> x.payday(), model.paydays == 40 || model.closed ? STATE : 0, model::payday);
        }
    }

    private long[] houseOrStore(int kind) {
        int m = someMiner();
        int goods = in(0, 3);
        int many = random.nextInt(3) == 0 ? in(1, 50) : in(1, 6);
        boolean isNone = isNoMiner(m) || isOut(goods, 0, 3);
        String three = "(" + m + ", " + goods + ", " + many + ")";
        switch (kind) {
            case 8: {
                call = "house(" + m + ")";
                long why = isNoMiner(m) ? INDEX : !model.people.get(m).alive || model.people.get(m).house
                        || model.people.get(m).arrears > 0 ? STATE : 0;
                return pair(() -> {
                    x.house(m);
                    return 0;
                }, why, () -> {
                    model.people.get(m).house = true;
                    return 0;
                });
            }
            case 9: {
                int price = random.nextBoolean() ? in(1, 100) : in(1, 15);
                boolean isHill = random.nextBoolean();
                call = "price(" + goods + ", " + price + ", " + isHill + ")";
                long why = isOut(goods, 0, 3) ? INDEX : isOut(price, 1, 100) ? ARGUMENT : 0;
                return pair(() -> x.price(goods, price, isHill), why, () -> {
                    long before = model.prices[isHill ? 1 : 0][goods];
                    model.prices[isHill ? 1 : 0][goods] = price;
                    return before;
                });
            }
            case 10:
                call = "raised(" + m + ", " + goods + ")";
                return pair(() -> x.raised(m, goods), isNone ? INDEX : 0, () -> model.raised(m, goods));
            case 11: {
                int limit = in(0, 1000);
                call = "limit(" + limit + ")";
                return pair(() -> x.limit(limit), isOut(limit, 0, 1000) ? ARGUMENT : 0, () -> {
                    long before = model.limit;
                    model.limit = limit;
                    return before;
                });
            }
            case 12: {
                call = "buy" + three;
                long why = isNone ? INDEX : isOut(many, 1, 50) ? ARGUMENT
                        : model.whyNot(m, goods, many) != 0 ? STATE : 0;
                return pair(() -> x.buy(m, goods, many), why, () -> model.buy(m, goods, many));
            }
            case 13: {
                call = "over" + three;
                long why = isNone ? INDEX : isOut(many, 1, 50) ? ARGUMENT : !model.people.get(m).alive
                        || model.people.get(m).coin < many * model.prices[1][goods] ? STATE : 0;
                return pair(() -> x.over(m, goods, many), why, () -> model.over(m, goods, many));
            }
            case 14: {
                int most = isNoMiner(m) ? 5 : (int) Math.min(model.scrip(m), 99999) + 1;
                int amount = isWild && random.nextInt(9) == 0 ? in(1, 100000) : in(1, most);
                call = "change(" + m + ", " + amount + ")";
                long why = isNoMiner(m) ? INDEX : isOut(amount, 1, 100000) ? ARGUMENT : !model.people.get(m).alive
                        || model.scrip(m) < amount ? STATE : 0;
                return pair(() -> x.change(m, amount), why, () -> model.change(m, amount));
            }
            case 15: {
                call = "whyNot" + three;
                long why = isNone ? INDEX : isOut(many, 1, 50) ? ARGUMENT : 0;
                return pair(() -> x.whyNot(m, goods, many), why, () -> model.whyNot(m, goods, many));
            }
            default: {
                int percent = in(0, 90);
                call = "discount(" + percent + ")";
                return pair(() -> x.discount(percent), isOut(percent, 0, 90) ? ARGUMENT : 0, () -> {
                    long before = model.discount;
                    model.discount = percent;
                    return before;
                });
            }
        }
    }

    private long[] lawOrEnd(int kind) {
        int m = someMiner();
        boolean is = random.nextInt(3) > 0;
        switch (kind) {
            case 17: {
                int law = in(0, 2);
                call = "law(" + law + ", " + is + ")";
                return pair(() -> x.law(law, is) ? 1 : 0, isOut(law, 0, 2) ? INDEX : 0, () -> {
                    boolean before = model.laws[law];
                    model.laws[law] = is;
                    return before ? 1 : 0;
                });
            }
            case 18: {
                boolean obeys = random.nextBoolean();
                call = "obey(" + obeys + ")";
                return pair(() -> x.obey(obeys) ? 1 : 0, 0, () -> {
                    boolean before = model.obeys;
                    model.obeys = obeys;
                    return before ? 1 : 0;
                });
            }
            case 19:
                call = "breaches()";
                return pair(() -> x.breaches(), 0, () -> model.breaches);
            case 20: {
                call = "die(" + m + ")";
                long why = isNoMiner(m) ? INDEX : !model.people.get(m).alive ? STATE : 0;
                return pair(() -> x.die(m), why, () -> {
                    Integer heir = model.die(m);
                    return heir == null ? -1 : heir;
                });
            }
            case 21: {
                call = "vote(" + m + ", " + is + ")";
                return pair(() -> x.vote(m, is) ? 1 : 0, isNoMiner(m) ? INDEX : 0, () -> {
                    boolean before = model.people.get(m).forStrike;
                    model.people.get(m).forStrike = is;
                    return before ? 1 : 0;
                });
            }
            case 22: {
                call = "strike()";
                long why = model.closed || (!model.striking && !model.canStrike()) ? STATE : 0;
                return pair(() -> x.strike() ? 1 : 0, why, () -> {
                    model.striking = !model.striking;
                    return model.striking ? 1 : 0;
                });
            }
            case 23: {
                int amount = random.nextInt(4) == 0 ? in(1, 1000) : in(1, 9);
                call = "give(" + amount + ")";
                return pair(() -> x.give(amount), isOut(amount, 1, 1000) ? ARGUMENT : 0, () -> model.fund += amount);
            }
            case 24:
                call = "soup()";
                return pair(() -> x.soup(), model.striking ? 0 : STATE, model::soup);
            default: {
                boolean isLate = random.nextInt(12) == 0;
                int money = !isLate ? -1 : random.nextBoolean() ? in(0, 100000) : in(0, 5000);
                call = "close(" + money + ")";
                long why = isOut(money, 0, 100000) ? ARGUMENT : model.closed ? STATE : 0;
                return pair(() -> x.close(money), why, () -> model.close(money));
            }
        }
    }

    private long[] question(int kind) {
        int m = someMiner();
        switch (kind) {
            case 26: {
                int what = in(0, 9);
                call = "about(" + m + ", " + what + ")";
                long why = isNoMiner(m) ? INDEX : isOut(what, 0, 9) ? ARGUMENT : 0;
                return pair(() -> x.about(m, what), why, () -> model.about(m, what));
            }
            case 27: {
                int goods = in(0, 3);
                call = "has(" + m + ", " + goods + ")";
                long why = isNoMiner(m) || isOut(goods, 0, 3) ? INDEX : 0;
                return pair(() -> x.has(m, goods), why, () -> model.people.get(m).goods[goods]);
            }
            case 28: {
                int issue = random.nextBoolean() ? in(0, 39) : Math.max(0, model.paydays - 1 - random.nextInt(5));
                call = "scrip(" + m + ", " + issue + ")";
                long why = isNoMiner(m) ? INDEX : isOut(issue, 0, 39) ? ARGUMENT : 0;
                return pair(() -> x.scrip(m, issue), why, () -> model.scrip(m, issue));
            }
            case 29:
                call = "scripAnew(" + m + ")";
                return pair(() -> x.scripAnew(m), isNoMiner(m) ? INDEX : 0, () -> model.scrip(m));
            case 30:
                call = "baskets(" + m + ")";
                return pair(() -> x.baskets(m), isNoMiner(m) ? INDEX : 0, () -> model.baskets(m));
            default: {
                int line = in(0, 5);
                call = "books(" + line + ")";
                long why = isOut(line, 0, 5) ? INDEX : 0;
                return pair(() -> x.books(line), why, () -> model.book(Model.Why.values()[line]));
            }
        }
    }

    private void look(String at, int m) {
        for (int what = 0; what < 10; what++) {
            due.is(at + "about(" + m + ", " + what + ")", x.about(m, what), model.about(m, what));
        }
        for (int goods = 0; goods < 4; goods++) {
            due.is(at + "has(" + m + ", " + goods + ")", x.has(m, goods), model.people.get(m).goods[goods]);
        }
        for (int issue = 0; issue < 40; issue++) {
            due.is(at + "scrip(" + m + ", " + issue + ")", x.scrip(m, issue), model.scrip(m, issue));
        }
        due.is(at + "scripAnew(" + m + ")", x.scripAnew(m), model.scrip(m));
        long heldOrGone = 0;
        for (int each = 0; each < model.people.size(); each++) {
            heldOrGone += x.about(each, 3);
        }
        for (int line = 1; line < 6; line++) {
            heldOrGone += x.books(line);
        }
        due.is(at + "what was paid is held or gone", x.books(0), heldOrGone);
        due.is(at + "breaches()", x.breaches(), model.breaches);
    }
}
