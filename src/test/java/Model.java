import java.math.BigInteger;
import java.util.ArrayList;
import java.util.HashSet;
import java.util.List;
import java.util.Set;
import java.util.TreeMap;

/**
 * The document once more, in another form than the class: all scrip is a journal of moves, from which
 * every answer about scrip is reckoned anew. It knows no ranges: ModelTest asks it only what is not refused.
 */
final class Model {
    enum Why { PAID, STORE, TAVERN, EXPIRED, GONE, CLOSED, INHERITED }

    record Move(int miner, int issue, long amount, Why why) { }

    static final class Person {
        boolean alive = true;
        boolean house = true;
        boolean forStrike;
        long coal, coin, debt, arrears, owed, pay;
        Integer kin;
        long[] goods = new long[4];
    }

    final List<Person> people = new ArrayList<>();
    final List<Move> journal = new ArrayList<>();
    long dock = 10;
    boolean checked;
    String edition = "12345";
    final long[] told = {10, 20, 0, 0, 0};
    int paydays;
    final long[][] prices = {{10, 10, 10, 10}, {10, 10, 10, 10}};
    long limit = 200;
    long discount = 20;
    final boolean[] laws = new boolean[3];
    boolean obeys;
    long breaches;
    boolean striking;
    boolean closed;
    long fund;

    long scrip(int m, int issue) {
        long sum = 0;
        for (Move move : journal) {
            if (move.miner == m && move.issue == issue) {
                sum += move.amount;
            }
        }
        return sum;
    }

    long scrip(int m) {
        long sum = 0;
        for (Move move : journal) {
            if (move.miner == m) {
                sum += move.amount;
            }
        }
        return sum;
    }

    long book(Why why) {
        long sum = 0;
        for (Move move : journal) {
            if (move.why == why) {
                sum += Math.abs(move.amount);
            }
        }
        return sum;
    }

    long hew(int m, long weight) {
        Person p = people.get(m);
        p.coal += checked ? weight : Math.floorDiv(weight * (100 - dock), 100);
        return p.coal;
    }

    long payday() {
        long all = 0;
        for (int m = 0; m < people.size(); m++) {
            if (people.get(m).alive) {
                all += payOne(m);
            }
        }
        for (int issue = 0; issue + 4 <= paydays; issue++) {
            for (int m = 0; m < people.size(); m++) {
                move(m, issue, -scrip(m, issue), Why.EXPIRED);
            }
        }
        paydays++;
        return all;
    }

    private long payOne(int m) {
        Person p = people.get(m);
        long wage = p.coal * told[0] / 10;
        p.coal = 0;
        TreeMap<Character, Long> due = new TreeMap<>();
        due.put('1', (p.house ? told[1] : 0) + p.arrears);
        due.put('2', told[2]);
        due.put('3', told[3]);
        due.put('4', told[4]);
        due.put('5', p.debt);
        TreeMap<Character, Long> took = new TreeMap<>();
        for (char kind : edition.toCharArray()) {
            boolean passed = obeys && laws[1] && "345".indexOf(kind) >= 0;
            if (kind != '0' && !passed) {
                long part = Math.min(wage, due.get(kind));
                took.put(kind, part);
                wage -= part;
            }
        }
        p.arrears = due.get('1') - took.getOrDefault('1', 0L);
        p.debt -= took.getOrDefault('5', 0L);
        p.pay = wage;
        boolean coin = obeys && laws[0];
        if (coin) {
            p.coin += wage;
        } else {
            move(m, paydays, wage, Why.PAID);
        }
        if (!obeys) {
            long beyond = took.getOrDefault('3', 0L) + took.getOrDefault('4', 0L) + took.getOrDefault('5', 0L);
            breach(p, laws[1], beyond);
            breach(p, laws[0], wage);
        }
        if (p.house && told[1] > 0 && p.arrears > 3 * told[1]) {
            p.house = false;
        }
        return wage;
    }

    private void breach(Person p, boolean inForce, long amount) {
        if (inForce && amount > 0) {
            breaches++;
            p.owed += amount;
        }
    }

    private void move(int m, int issue, long amount, Why why) {
        if (amount != 0) {
            journal.add(new Move(m, issue, amount, why));
        }
    }

    private void spend(int m, long amount, Why why) {
        for (int issue = 0; issue < 40 && amount > 0; issue++) {
            long part = Math.min(amount, scrip(m, issue));
            move(m, issue, -part, why);
            amount -= part;
        }
    }

    long raised(int m, int goods) {
        return prices[0][goods] + prices[0][goods] * people.get(m).debt / 200;
    }

    int whyNot(int m, int goods, int many) {
        Person p = people.get(m);
        if (closed || striking) {
            return 1;
        }
        if (!p.alive) {
            return 2;
        }
        long debt = p.debt + Math.max(0, raised(m, goods) * many - scrip(m) - p.coin);
        return debt > limit && debt > p.debt ? 3 : 0;
    }

    long buy(int m, int goods, int many) {
        Person p = people.get(m);
        long cost = raised(m, goods) * many;
        long scrip = Math.min(cost, scrip(m));
        spend(m, scrip, Why.STORE);
        long coin = Math.min(cost - scrip, p.coin);
        p.coin -= coin;
        p.debt += cost - scrip - coin;
        p.goods[goods] += many;
        return p.debt;
    }

    long over(int m, int goods, int many) {
        Person p = people.get(m);
        p.coin -= prices[1][goods] * many;
        p.goods[goods] += many;
        return p.coin;
    }

    long change(int m, long amount) {
        spend(m, amount, Why.TAVERN);
        long coin = amount * (100 - discount) / 100;
        people.get(m).coin += coin;
        return coin;
    }

    Integer die(int m) {
        Person p = people.get(m);
        p.alive = false;
        Integer heir = p.kin;
        Set<Integer> met = new HashSet<>();
        while (heir != null && !people.get(heir).alive) {
            heir = met.add(heir) ? people.get(heir).kin : null;
        }
        for (int issue = 0; issue < 40; issue++) {
            long amount = scrip(m, issue);
            move(m, issue, -amount, heir == null ? Why.GONE : Why.INHERITED);
            if (heir != null) {
                move(heir, issue, amount, Why.INHERITED);
            }
        }
        if (heir != null) {
            Person h = people.get(heir);
            h.coin += p.coin;
            h.debt += laws[2] ? 0 : p.debt;
            h.arrears += laws[2] ? 0 : p.arrears;
            for (int goods = 0; goods < 4; goods++) {
                h.goods[goods] += p.goods[goods];
            }
        }
        Person left = new Person();
        left.alive = false;
        left.house = false;
        left.forStrike = p.forStrike;
        left.owed = p.owed;
        left.pay = p.pay;
        left.kin = p.kin;
        people.set(m, left);
        return heir;
    }

    boolean canStrike() {
        long yes = people.stream().filter(p -> p.alive && p.forStrike).count();
        long no = people.stream().filter(p -> p.alive && !p.forStrike).count();
        return yes > no;
    }

    int soup() {
        List<Integer> row = new ArrayList<>();
        for (int m = 0; m < people.size(); m++) {
            if (people.get(m).alive) {
                row.add(m);
            }
        }
        // The sort keeps the lower number first among equals.
        row.sort((a, b) -> Long.compare(people.get(a).coin + scrip(a), people.get(b).coin + scrip(b)));
        int bits = 0;
        for (int m : row) {
            if (fund >= 2) {
                fund -= 2;
                bits += 1 << m;
            }
        }
        return bits;
    }

    long close(long money) {
        for (int issue = 0; issue < 40; issue++) {
            long[] held = new long[people.size()];
            long total = 0;
            for (int m = 0; m < held.length; m++) {
                held[m] = scrip(m, issue);
                total += held[m];
            }
            long begin = money;
            for (int m = 0; m < held.length; m++) {
                long coin = held[m];
                if (begin < total) {
                    BigInteger product = BigInteger.valueOf(held[m]).multiply(BigInteger.valueOf(begin));
                    coin = product.divide(BigInteger.valueOf(total)).longValue();
                }
                people.get(m).coin += coin;
                money -= coin;
                move(m, issue, -held[m], Why.CLOSED);
            }
        }
        closed = true;
        striking = false;
        return money;
    }

    long baskets(int m) {
        long basket = 0;
        for (int goods = 0; goods < 4; goods++) {
            basket += raised(m, goods);
        }
        return people.get(m).pay / basket;
    }

    long about(int m, int what) {
        Person p = people.get(m);
        long[] all = {p.alive ? 1 : 0, p.coal, p.coin, scrip(m), p.debt, p.arrears, p.house ? 1 : 0, p.owed, p.pay,
                p.kin == null ? -1 : p.kin};
        return all[what];
    }
}
