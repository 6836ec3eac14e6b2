import java.util.ArrayList;

/** A town that a company owns. The document ../shared/DOC.md says what each call promises. */
public final class ScripHollow {
    public static final int NONE = -1;
    public static final int RENT = 1, DOCTOR = 2, TOOLS = 3, SCHOOL = 4, STORE = 5;
    public static final int TRUCK = 0, DEDUCTION = 1, DEATH = 2;

    private static final int MOST_MINERS = 10, MOST_PAYDAYS = 40;
    private static final int KINDS_OF_GOODS = 4, MOST_BOUGHT = 50;
    private static final int RATE = 0;
    private static final int FIRST_PLACE = 10000;
    private static final int SCRIP_LASTS = 4, RENTS_OWED = 3, SOUP_COST = 2;
    private static final int PAID = 0, BACK = 1, CHANGED = 2, EXPIRED = 3, UNCLAIMED = 4, CLOSED = 5;

    private final ArrayList<Miner> miners = new ArrayList<>();
    private int dockPercent = 10;
    private boolean isChecked;

    private int row = 12345;
    /** The rate, the rent and the fees, each at its own number. */
    private final int[] told = {10, 20, 0, 0, 0};
    private final Slip slip = new Slip();
    private int paydays;

    private final int[] storePrices = {10, 10, 10, 10};
    private final int[] hillPrices = {10, 10, 10, 10};
    private int mostDebt = 200;
    private int tavernPercent = 20;

    private final boolean[] laws = new boolean[3];
    private boolean isObeying;
    private int breachCount;

    private boolean isStriking;
    private boolean isClosed;
    private int fund;
    private final int[] lines = new int[6];

    public ScripHollow() {
    }

    // ---- miners, coal

    public int miner() throws IllegalStateException {
        if (miners.size() >= MOST_MINERS) {
            throw new IllegalStateException("there are 10 miners");
        }
        miners.add(new Miner());
        return miners.size() - 1;
    }

    public int kin(int miner, int other) throws IndexOutOfBoundsException, IllegalArgumentException {
        Miner one = minerAt(miner);
        if (other != NONE) {
            minerAt(other);
        }
        if (miner == other) {
            throw new IllegalArgumentException("nobody is their own kin");
        }
        int before = one.kinNumber;
        one.kinNumber = other;
        return before;
    }

    public int dock(int percent) throws IllegalArgumentException {
        requireRange(percent, 0, 50);
        int before = dockPercent;
        dockPercent = percent;
        return before;
    }

    public boolean check(boolean is) {
        boolean before = isChecked;
        isChecked = is;
        return before;
    }

    public int hew(int miner, int weight)
            throws IndexOutOfBoundsException, IllegalArgumentException, IllegalStateException {
        Miner one = minerAt(miner);
        requireRange(weight, 1, 1000);
        requireAlive(one);
        if (isStriking || isClosed) {
            throw new IllegalStateException("nobody hews now");
        }
        one.coal += isChecked ? weight : weight * (100 - dockPercent) / 100;
        return one.coal;
    }

    // ---- paydays

    public int edition(int row) throws IllegalArgumentException {
        if (!isEdition(row)) {
            throw new IllegalArgumentException("not a row of unlike kinds");
        }
        int before = this.row;
        this.row = row;
        return before;
    }

    public int tell(int what, int amount) throws IllegalArgumentException {
        requireRange(what, RATE, SCHOOL);
        if (what == RATE) {
            requireRange(amount, 1, 50);
        } else {
            requireRange(amount, 0, 100);
        }
        int before = told[what];
        told[what] = amount;
        return before;
    }

    public int payday() throws IllegalStateException {
        if (paydays >= MOST_PAYDAYS || isClosed) {
            throw new IllegalStateException("no payday can be held");
        }
        int pays = 0;
        for (int number = 0; number < miners.size(); number++) {
            Miner one = miners.get(number);
            if (one.isAlive) {
                settle(one);
                pays += one.latestPay;
            }
        }
        for (int issue = 0; issue <= paydays - SCRIP_LASTS; issue++) {
            expire(issue);
        }
        paydays++;
        return pays;
    }

    public void house(int miner) throws IndexOutOfBoundsException, IllegalStateException {
        Miner one = minerAt(miner);
        requireAlive(one);
        if (one.hasHouse || one.arrears > 0) {
            throw new IllegalStateException("the miner has a house, or arrears");
        }
        one.hasHouse = true;
    }

    // ---- store, tavern, hill

    public int price(int goods, int price, boolean isHill)
            throws IndexOutOfBoundsException, IllegalArgumentException {
        requireGoods(goods);
        requireRange(price, 1, 100);
        int[] prices = isHill ? hillPrices : storePrices;
        int before = prices[goods];
        prices[goods] = price;
        return before;
    }

    public int raised(int miner, int goods) throws IndexOutOfBoundsException {
        Miner one = minerAt(miner);
        requireGoods(goods);
        return storePrice(one, goods);
    }

    public int limit(int limit) throws IllegalArgumentException {
        requireRange(limit, 0, 1000);
        int before = mostDebt;
        mostDebt = limit;
        return before;
    }

    public int whyNot(int miner, int goods, int many)
            throws IndexOutOfBoundsException, IllegalArgumentException {
        Miner one = minerAt(miner);
        requireGoods(goods);
        requireRange(many, 1, MOST_BOUGHT);
        return refusal(one, storePrice(one, goods) * many);
    }

    public int buy(int miner, int goods, int many)
            throws IndexOutOfBoundsException, IllegalArgumentException, IllegalStateException {
        Miner one = minerAt(miner);
        requireGoods(goods);
        requireRange(many, 1, MOST_BOUGHT);
        int cost = storePrice(one, goods) * many;
        if (refusal(one, cost) != 0) {
            throw new IllegalStateException("the store refuses");
        }
        int inScrip = one.loseLowestScrip(cost);
        int inCoin = Math.min(cost - inScrip, one.coin);
        lines[BACK] += inScrip;
        one.coin -= inCoin;
        one.debt += cost - inScrip - inCoin;
        one.goodsHeld[goods] += many;
        return one.debt;
    }

    public int over(int miner, int goods, int many)
            throws IndexOutOfBoundsException, IllegalArgumentException, IllegalStateException {
        Miner one = minerAt(miner);
        requireGoods(goods);
        requireRange(many, 1, MOST_BOUGHT);
        requireAlive(one);
        int cost = hillPrices[goods] * many;
        if (one.coin < cost) {
            throw new IllegalStateException("the miner has less coin");
        }
        one.coin -= cost;
        one.goodsHeld[goods] += many;
        return one.coin;
    }

    public int discount(int percent) throws IllegalArgumentException {
        requireRange(percent, 0, 90);
        int before = tavernPercent;
        tavernPercent = percent;
        return before;
    }

    public int change(int miner, int amount)
            throws IndexOutOfBoundsException, IllegalArgumentException, IllegalStateException {
        Miner one = minerAt(miner);
        requireRange(amount, 1, 100000);
        requireAlive(one);
        if (one.allScrip() < amount) {
            throw new IllegalStateException("the miner has less scrip");
        }
        lines[CHANGED] += one.loseLowestScrip(amount);
        int becomes = amount * (100 - tavernPercent) / 100;
        one.coin += becomes;
        return becomes;
    }

    // ---- laws

    public boolean law(int law, boolean is) throws IndexOutOfBoundsException {
        requireIndex(law, laws.length);
        boolean before = laws[law];
        laws[law] = is;
        return before;
    }

    public boolean obey(boolean is) {
        boolean before = isObeying;
        isObeying = is;
        return before;
    }

    public int breaches() {
        return breachCount;
    }

    // ---- death, strikes, closing

    public int die(int miner) throws IndexOutOfBoundsException, IllegalStateException {
        Miner dead = minerAt(miner);
        requireAlive(dead);
        dead.isAlive = false;
        int heir = heirOf(dead);
        if (heir == NONE) {
            lines[UNCLAIMED] += dead.allScrip();
        } else {
            minerAt(heir).inherit(dead, !laws[DEATH]);
        }
        dead.leaveAll();
        return heir;
    }

    public boolean vote(int miner, boolean is) throws IndexOutOfBoundsException {
        Miner one = minerAt(miner);
        boolean before = one.isForStrike;
        one.isForStrike = is;
        return before;
    }

    public boolean strike() throws IllegalStateException {
        if (isClosed || (!isStriking && !canStrike())) {
            throw new IllegalStateException("no strike can begin");
        }
        isStriking = !isStriking;
        return isStriking;
    }

    public int give(int amount) throws IllegalArgumentException {
        requireRange(amount, 1, 1000);
        fund += amount;
        return fund;
    }

    public int soup() throws IllegalStateException {
        if (!isStriking) {
            throw new IllegalStateException("there is no strike");
        }
        int served = 0;
        for (int turn = 0; turn < miners.size() && fund >= SOUP_COST; turn++) {
            int next = poorestBut(served);
            if (next == NONE) {
                break;
            }
            fund -= SOUP_COST;
            served |= 1 << next;
        }
        return served;
    }

    public int close(int money) throws IllegalArgumentException, IllegalStateException {
        requireRange(money, 0, 100000);
        if (isClosed) {
            throw new IllegalStateException("the mine is closed");
        }
        int left = money;
        for (int issue = 0; issue < MOST_PAYDAYS; issue++) {
            left -= redeem(issue, left);
        }
        isClosed = true;
        isStriking = false;
        return left;
    }

    // ---- questions

    public int about(int miner, int what) throws IndexOutOfBoundsException, IllegalArgumentException {
        Miner one = minerAt(miner);
        switch (what) {
            case 0: return one.isAlive ? 1 : 0;
            case 1: return one.coal;
            case 2: return one.coin;
            case 3: return one.allScrip();
            case 4: return one.debt;
            case 5: return one.arrears;
            case 6: return one.hasHouse ? 1 : 0;
            case 7: return one.owed;
            case 8: return one.latestPay;
            case 9: return one.kinNumber;
            default: throw new IllegalArgumentException("nothing is told by this number");
        }
    }

    public int has(int miner, int goods) throws IndexOutOfBoundsException {
        Miner one = minerAt(miner);
        requireGoods(goods);
        return one.goodsHeld[goods];
    }

    public int scrip(int miner, int issue) throws IndexOutOfBoundsException, IllegalArgumentException {
        Miner one = minerAt(miner);
        requireRange(issue, 0, MOST_PAYDAYS - 1);
        return one.scripHeld[issue];
    }

    public int scripAnew(int miner) throws IndexOutOfBoundsException {
        Miner one = minerAt(miner);
        return one.scripCame - one.scripWent;
    }

    public int baskets(int miner) throws IndexOutOfBoundsException {
        Miner one = minerAt(miner);
        int basket = 0;
        for (int goods = 0; goods < KINDS_OF_GOODS; goods++) {
            basket += storePrice(one, goods);
        }
        return basket > 0 ? one.latestPay / basket : 0;
    }

    public int books(int line) throws IndexOutOfBoundsException {
        requireIndex(line, lines.length);
        return lines[line];
    }

    // ---- what the calls stand on

    private Miner minerAt(int number) {
        requireIndex(number, miners.size());
        return miners.get(number);
    }

    private static void requireGoods(int goods) {
        requireIndex(goods, KINDS_OF_GOODS);
    }

    private static void requireIndex(int index, int size) {
        if (index < 0 || index >= size) {
            throw new IndexOutOfBoundsException("there is none of this number");
        }
    }

    private static void requireRange(int value, int least, int most) {
        if (value < least || value > most) {
            throw new IllegalArgumentException("out of its range");
        }
    }

    private static void requireAlive(Miner one) {
        if (!one.isAlive) {
            throw new IllegalStateException("the miner is not alive");
        }
    }

    private static boolean isEdition(int row) {
        int rest = row;
        int met = 0;
        for (int place = 0; place < STORE && rest > 0; place++) {
            int kind = rest % 10;
            if (kind < RENT || kind > STORE || (met >> kind & 1) == 1) {
                return false;
            }
            met |= 1 << kind;
            rest /= 10;
        }
        // What is left is below 0, or a sixth digit, which cannot be unlike the others.
        return rest == 0;
    }

    private void settle(Miner one) {
        int rentDue = due(one, RENT);
        slip.open(one.coal * told[RATE] / 10);
        one.coal = 0;
        for (int place = FIRST_PLACE; place > 0; place /= 10) {
            int kind = row / place % 10;
            if (!isPassedBy(kind)) {
                slip.take(kind, due(one, kind));
            }
        }
        one.arrears = rentDue - slip.rentTaken;
        one.debt -= slip.storeTaken;
        breach(one, DEDUCTION, slip.unlawful);
        hand(one, slip.rest);
        if (told[RENT] > 0 && one.arrears > RENTS_OWED * told[RENT]) {
            one.hasHouse = false;
        }
    }

    private int due(Miner one, int kind) {
        switch (kind) {
            case RENT: return one.arrears + (one.hasHouse ? told[RENT] : 0);
            case DOCTOR: return told[DOCTOR];
            case TOOLS: return told[TOOLS];
            case SCHOOL: return told[SCHOOL];
            case STORE: return one.debt;
            default: return 0;
        }
    }

    private boolean isPassedBy(int kind) {
        return isObeying && laws[DEDUCTION] && kind >= TOOLS;
    }

    private void hand(Miner one, int pay) {
        one.latestPay = pay;
        if (isObeying && laws[TRUCK]) {
            one.coin += pay;
            return;
        }
        one.gainScrip(paydays, pay);
        lines[PAID] += pay;
        breach(one, TRUCK, pay);
    }

    private void breach(Miner one, int law, int amount) {
        if (!isObeying && laws[law] && amount > 0) {
            breachCount++;
            one.owed += amount;
        }
    }

    private void expire(int issue) {
        for (int number = 0; number < miners.size(); number++) {
            Miner one = miners.get(number);
            lines[EXPIRED] += one.loseScrip(issue, one.scripHeld[issue]);
        }
    }

    private int storePrice(Miner one, int goods) {
        return storePrices[goods] + storePrices[goods] * one.debt / 200;
    }

    private int refusal(Miner one, int cost) {
        if (isClosed || isStriking) {
            return 1;
        }
        if (!one.isAlive) {
            return 2;
        }
        int onCredit = cost - one.means();
        return onCredit > 0 && one.debt + onCredit > mostDebt ? 3 : 0;
    }

    private int heirOf(Miner dead) {
        int next = dead.kinNumber;
        // With as many steps as miners the chain has come to one that was met.
        for (int step = 0; step < miners.size() && next != NONE; step++) {
            Miner one = minerAt(next);
            if (one.isAlive) {
                return next;
            }
            next = one.kinNumber;
        }
        return NONE;
    }

    private boolean canStrike() {
        int lead = 0;
        for (int number = 0; number < miners.size(); number++) {
            Miner one = miners.get(number);
            if (one.isAlive) {
                lead += one.isForStrike ? 1 : -1;
            }
        }
        return lead > 0;
    }

    private int poorestBut(int served) {
        int poorest = NONE;
        int least = 0;
        for (int number = 0; number < miners.size(); number++) {
            Miner one = miners.get(number);
            boolean isWaiting = one.isAlive && (served >> number & 1) == 0;
            if (isWaiting && (poorest == NONE || one.means() < least)) {
                poorest = number;
                least = one.means();
            }
        }
        return poorest;
    }

    private int redeem(int issue, int money) {
        int total = 0;
        for (int number = 0; number < miners.size(); number++) {
            total += miners.get(number).scripHeld[issue];
        }
        if (total <= 0) {
            return 0;
        }
        int given = 0;
        for (int number = 0; number < miners.size(); number++) {
            Miner one = miners.get(number);
            int lost = one.loseScrip(issue, one.scripHeld[issue]);
            // The product can be beyond an int.
            int coin = money >= total ? lost : (int) ((long) lost * money / total);
            one.coin += coin;
            given += coin;
        }
        lines[CLOSED] += total;
        return given;
    }

    /** What one miner is and has. */
    private static final class Miner {
        boolean isAlive = true;
        boolean hasHouse = true;
        boolean isForStrike;
        int kinNumber = NONE;
        int coal;
        int coin;
        int debt;
        int arrears;
        int owed;
        int latestPay;
        final int[] goodsHeld = new int[KINDS_OF_GOODS];
        final int[] scripHeld = new int[MOST_PAYDAYS];
        // Kept apart from scripHeld, so that scripAnew is a reckoning of its own.
        int scripCame;
        int scripWent;

        int allScrip() {
            int sum = 0;
            for (int issue = 0; issue < scripHeld.length; issue++) {
                sum += scripHeld[issue];
            }
            return sum;
        }

        int means() {
            return coin + allScrip();
        }

        void gainScrip(int issue, int amount) {
            scripHeld[issue] += amount;
            scripCame += amount;
        }

        int loseScrip(int issue, int most) {
            int lost = Math.min(scripHeld[issue], most);
            scripHeld[issue] -= lost;
            scripWent += lost;
            return lost;
        }

        int loseLowestScrip(int most) {
            int lost = 0;
            for (int issue = 0; issue < scripHeld.length; issue++) {
                lost += loseScrip(issue, most - lost);
            }
            return lost;
        }

        void inherit(Miner dead, boolean isWithDebts) {
            coin += dead.coin;
            for (int issue = 0; issue < scripHeld.length; issue++) {
                gainScrip(issue, dead.scripHeld[issue]);
            }
            for (int goods = 0; goods < goodsHeld.length; goods++) {
                goodsHeld[goods] += dead.goodsHeld[goods];
            }
            if (isWithDebts) {
                debt += dead.debt;
                arrears += dead.arrears;
            }
        }

        void leaveAll() {
            hasHouse = false;
            coal = 0;
            coin = 0;
            debt = 0;
            arrears = 0;
            loseLowestScrip(allScrip());
            for (int goods = 0; goods < goodsHeld.length; goods++) {
                goodsHeld[goods] = 0;
            }
        }
    }

    /** One wage as deductions are taken off it, used again for each miner. */
    private static final class Slip {
        int rest;
        int rentTaken;
        int storeTaken;
        int unlawful;

        void open(int wage) {
            rest = wage;
            rentTaken = 0;
            storeTaken = 0;
            unlawful = 0;
        }

        void take(int kind, int due) {
            int taken = Math.min(due, rest);
            rest -= taken;
            if (kind == RENT) {
                rentTaken = taken;
            }
            if (kind == STORE) {
                storeTaken = taken;
            }
            if (kind >= TOOLS) {
                unlawful += taken;
            }
        }
    }
}
